/-! the i-th tick at which the trigger held -/
/-- from tick t on, f ticks long: the tick that holds and has k ahead that did -/
def tw_fi (hd : Nat → Int32) (k : Nat) : Nat → Nat → Int32
  | 0, _ => -9
  | f + 1, t => if hd t ≠ 0 ∧ tw_cn hd t = k then nI t else tw_fi hd k f (t + 1)
def tw_wh (T : Nat) (hd : Nat → Int32) (x : Int32) : Int32 := if 0 ≤ x ∧ x < nI (tw_cn hd T) then tw_fi hd x.toNatClampNeg T 0 else -9
section tw_when
variable {sc : Nat × (Nat → Int32)} {d t s i : Nat} {mi : tw_I} {mr : tw_Q} {g : tw_G} {Q : Option Value → tw_G → tw_I → tw_Q → Prop} {T C M : Nat} {sm hd ca mk mv mt : Nat → Int32}
set_option maxRecDepth 100000 in
theorem tw_p_hitl (hC : tw_Ch mi T sm hd) {k : Nat} (hk : k < 2 ^ 31) (x : Int32) : ∀ f u, T = u + f → tw_cn hd u ≤ k → tw_E sc d 98 19 [some (.ref 128), some (.int x), some (.int (nI (k - tw_cn hd u))), some (.int (nI u))] [] tw_g0 mi (tw_r0 t s i) Q = Q (some (.int (tw_fi hd k f u))) tw_g0 mi (tw_r0 t s i) := by
  obtain ⟨hT, h1, h2, h3, h4⟩ := hC
  intro f
  induction f with
  | zero =>
    intro u hu hc
    rw [tz_98_19]
    simp only [tz_98_0, tz_98_1, tz_98_4, tz_98_5, tz_98_6, tz_98_9, tz_98_12, tz_98_14, tz_98_15, tz_98_16, tz_98_17, tz_98_18, tz_98_20, tz_98_21, tz_98_24, tz_98_27, tz_98_28, tz_98_31, tz_98_32, tz_98_33, tz_98_36, tz_98_37, tz_98_40, tz_98_41, tz_98_42, tz_98_45, tz_98_48, tz_98_51, tz_98_53, tk_128, tq_128_0, tq_128_1, tw_va_s, tw_va_n, tw_K_s, tw_K_n, and_true, true_and, and_false, false_and, true_or, or_true, not_true_eq_false, not_false_eq_true, ↓reduceIte, Nat.reduceEqDiff, h1, tw_fi]
    rw [tw_le_t (by omega) (by omega)]
  | succ f ih =>
    intro u hu hc
    rw [tz_98_19]
    simp only [tz_98_0, tz_98_1, tz_98_4, tz_98_5, tz_98_6, tz_98_9, tz_98_12, tz_98_14, tz_98_15, tz_98_16, tz_98_17, tz_98_18, tz_98_20, tz_98_21, tz_98_24, tz_98_27, tz_98_28, tz_98_31, tz_98_32, tz_98_33, tz_98_36, tz_98_37, tz_98_40, tz_98_41, tz_98_42, tz_98_45, tz_98_48, tz_98_51, tz_98_53, tk_128, tq_128_0, tq_128_1, tk_130, tj_130, tw_va_s, tw_va_n, tw_K_s, tw_K_n, and_true, true_and, and_false, false_and, true_or, or_true, not_true_eq_false, not_false_eq_true, ↓reduceIte, Nat.reduceEqDiff, h1, tw_fi, nI_clamp (show u < 2 ^ 31 by omega), h4 u (by omega), vp_in_nI (show u < 4000 by omega) (by omega), tl0, tl1, tl2, tl3, tl4, tl5, tl6, tl7, tl8, tl9, tl10, tl15, tl16, tl20, tl24, tl32, tl33, tl38, tl40, tl41, tl42, tl43, tl44, tl45, tl47, tl48, tl57, tl58, tl59, tl60, tl97, tl112, tl126, tl255, tl256, tl257, tl258, tl400, tl500, tl512, tl999, tl1000, tl1001, tl4000, tl65535, nI_add]
    rw [tw_le_f (by omega) (by omega)]
    by_cases h0 : hd u = 0
    · have e : tw_cn hd (u + 1) = tw_cn hd u := by simp [tw_cn, h0]
      have := ih (u + 1) (by omega) (by omega)
      rw [e] at this
      simp only [h0, ne_eq, not_true_eq_false, false_and, ↓reduceIte]
      exact this
    · have h00 : ¬ hd u = nI 0 := h0
      have e : tw_cn hd (u + 1) = tw_cn hd u + 1 := by simp [tw_cn, h0]
      by_cases hk2 : tw_cn hd u = k
      · subst hk2
        simp [h0, h00, nI_0]
      · have := ih (u + 1) (by omega) (by omega)
        rw [e] at this
        have hs : nI (k - tw_cn hd u) + -nI 1 = nI (k - (tw_cn hd u + 1)) := by
          show nI (k - tw_cn hd u) + (-1) = _
          obtain ⟨z, hz⟩ : ∃ z, k - tw_cn hd u = z + 1 := ⟨k - tw_cn hd u - 1, by omega⟩
          rw [hz, pk_m1]
          congr 1
          omega
        rw [if_neg h00, tw_ne_t (by omega) (by omega) (by omega), hs, if_neg (fun q => hk2 q.2)]
        exact this
set_option maxRecDepth 100000 in
theorem tw_p_hit (hC : tw_Ch mi T sm hd) (x : Int32) : tw_E sc d 98 0 [some (.ref 128), some (.int x), none, none] [] tw_g0 mi (tw_r0 t s i) Q = Q (some (.int (tw_wh T hd x))) tw_g0 mi (tw_r0 t s i) := by
  have hle := tw_cn_le hd T
  have hT := hC.1
  simp only [tz_98_0, tz_98_1, tz_98_4, tz_98_5, tz_98_6, tz_98_9, tz_98_12, tz_98_14, tz_98_15, tz_98_16, tz_98_17, tz_98_18, tz_98_20, tz_98_21, tz_98_24, tz_98_27, tz_98_28, tz_98_31, tz_98_32, tz_98_33, tz_98_36, tz_98_37, tz_98_40, tz_98_41, tz_98_42, tz_98_45, tz_98_48, tz_98_51, tz_98_53, tk_128, tq_128_0, tq_128_1, tw_va_s, tw_va_n, tw_K_s, tw_K_n, and_true, true_and, and_false, false_and, true_or, or_true, not_true_eq_false, not_false_eq_true, ↓reduceIte, Nat.reduceEqDiff, hC.2.2.1]
  rcases tw_ixc x (T := tw_cn hd T) (by omega) with ⟨c1, c2⟩ | ⟨c1, c2, c3, c4⟩ | ⟨j, hj, rfl, c1, c2, c3, c4, c5⟩
  · simp only [tw_wh, c1, c2, ↓reduceIte]
  · simp only [tw_wh, c1, c3, and_false, ↓reduceIte]
  · simp only [tw_wh, c1, c3, c4, c5, and_self, ↓reduceIte]
    exact tw_p_hitl hC (by omega) (nI j) T 0 (by omega) (Nat.zero_le _)
set_option maxRecDepth 100000 in
theorem tw_q_tickl (hC : tw_Mh mi T sm hd) (x : Int32) : ∀ f u, T = u + f → tw_E sc d 155 4 [some (.ref 139), some (.int x), some (.int (nI (tw_cn hd u))), some (.int (nI u))] [] tw_g0 mi (tw_r0 t s i) Q = Q (some (.int (if 0 ≤ x ∧ x < nI (tw_cn hd T) then tw_fi hd x.toNatClampNeg f u else -9))) tw_g0 mi (tw_r0 t s i) := by
  obtain ⟨hT, h1, h3, h4⟩ := hC
  have hle := tw_cn_le hd T
  intro f
  induction f with
  | zero =>
    intro u hu
    rw [tz_155_4]
    simp only [tz_155_0, tz_155_1, tz_155_2, tz_155_3, tz_155_5, tz_155_6, tz_155_9, tz_155_12, tz_155_13, tz_155_16, tz_155_17, tz_155_18, tz_155_21, tz_155_22, tz_155_23, tz_155_26, tz_155_27, tz_155_28, tz_155_31, tz_155_34, tz_155_37, tz_155_39, tk_139, tq_139_1, tq_139_6, tq_139_7, tq_139_8, tq_139_9, tq_139_10, tq_139_12, tq_139_13, tq_139_14, tq_139_15, tq_139_16, tq_139_17, tq_139_18, tq_139_19, tq_139_21, tq_139_22, tq_139_24, tq_139_26, tq_139_27, tq_139_28, tq_139_34, tq_139_35, tq_139_36, tq_139_37, tw_va_s, tw_va_n, tw_K_s, tw_K_n, and_true, true_and, and_false, false_and, true_or, or_true, not_true_eq_false, not_false_eq_true, ↓reduceIte, Nat.reduceEqDiff, h1, tw_fi]
    rw [tw_le_t (by omega) (by omega)]
    simp
  | succ f ih =>
    intro u hu
    have hcu := tw_cn_le hd u
    rw [tz_155_4]
    simp only [tz_155_0, tz_155_1, tz_155_2, tz_155_3, tz_155_5, tz_155_6, tz_155_9, tz_155_12, tz_155_13, tz_155_16, tz_155_17, tz_155_18, tz_155_21, tz_155_22, tz_155_23, tz_155_26, tz_155_27, tz_155_28, tz_155_31, tz_155_34, tz_155_37, tz_155_39, tk_139, tq_139_1, tq_139_6, tq_139_7, tq_139_8, tq_139_9, tq_139_10, tq_139_12, tq_139_13, tq_139_14, tq_139_15, tq_139_16, tq_139_17, tq_139_18, tq_139_19, tq_139_21, tq_139_22, tq_139_24, tq_139_26, tq_139_27, tq_139_28, tq_139_34, tq_139_35, tq_139_36, tq_139_37, tk_155, tj_155, tw_va_s, tw_va_n, tw_K_s, tw_K_n, and_true, true_and, and_false, false_and, true_or, or_true, not_true_eq_false, not_false_eq_true, ↓reduceIte, Nat.reduceEqDiff, h1, tw_fi, nI_clamp (show u < 2 ^ 31 by omega), h4 u (by omega), vp_in_nI (show u < 4000 by omega) (by omega), nI_1]
    rw [tw_le_f (by omega) (by omega)]
    by_cases h0 : hd u = 0
    · have e : tw_cn hd (u + 1) = tw_cn hd u := by simp [tw_cn, h0]
      have := ih (u + 1) (by omega)
      rw [e] at this
      rw [if_pos h0, this]
      simp only [h0, ne_eq, not_true_eq_false, false_and, ↓reduceIte]
    · have e : tw_cn hd (u + 1) = tw_cn hd u + 1 := by simp [tw_cn, h0]
      have hm : tw_cn hd (u + 1) ≤ tw_cn hd T := tw_cn_mono hd (by omega)
      have := ih (u + 1) (by omega)
      rw [e] at this
      rw [if_neg h0, this]
      rcases tw_ixc x (T := tw_cn hd T) (by omega) with ⟨c1, c2⟩ | ⟨c1, c2, c3, c4⟩ | ⟨j, hj, rfl, c1, c2, c3, c4, c5⟩
      · have hne : ¬ nI (tw_cn hd u) = x := fun q => absurd c1 (by rw [← q]; exact nI_pos (by omega))
        simp only [c2, hne, not_false_eq_true, ↓reduceIte]
      · have hne : ¬ nI (tw_cn hd u) = x := fun q => absurd c2 (by rw [← q]; exact nI_ge (by omega) (by omega))
        simp only [c4, hne, not_false_eq_true, ↓reduceIte]
      · simp only [c4, c5, and_self, ↓reduceIte]
        by_cases hk : tw_cn hd u = j
        · subst hk
          simp [h0]
        · rw [tw_ne_t hk (by omega) (by omega), if_neg (fun q => hk q.2)]
set_option maxRecDepth 100000 in
theorem tw_q_tick (hC : tw_Mh mi T sm hd) (x : Int32) : tw_E sc d 155 0 [some (.ref 139), some (.int x), none, none] [] tw_g0 mi (tw_r0 t s i) Q = Q (some (.int (tw_wh T hd x))) tw_g0 mi (tw_r0 t s i) := by
  simp only [tz_155_0, tz_155_1, tz_155_2, tz_155_3, tz_155_5, tz_155_6, tz_155_9, tz_155_12, tz_155_13, tz_155_16, tz_155_17, tz_155_18, tz_155_21, tz_155_22, tz_155_23, tz_155_26, tz_155_27, tz_155_28, tz_155_31, tz_155_34, tz_155_37, tz_155_39]
  exact tw_q_tickl hC x T 0 (by omega)
set_option maxRecDepth 100000 in
theorem tw_Mh_th (hC : tw_Mh mi T sm hd) : tw_Mh (tw_th mi) T sm hd := ⟨hC.1, by rw [tw_th_x mi (by decide)]; exact hC.2.1, fun j hj => by rw [tw_th_a mi (by decide)]; exact hC.2.2.1 j hj, fun j hj => by rw [tw_th_a mi (by decide)]; exact hC.2.2.2 j hj⟩
set_option maxRecDepth 100000 in
theorem tw_p_when (hC : tw_Ch mi T sm hd) (x : Int32) : tw_E sc (d + 1) 11 0 [some (.ref 0), some (.int x)] [] tw_g0 mi (tw_r0 t s i) Q = Q (some (.int (tw_wh T hd x))) tw_g0 mi (tw_r0 t s i) := by
  simp only [tz_11_0, tz_11_1, tz_11_4, tz_11_5, tz_11_8, tk_0, tq_0_0, tq_0_1, tq_0_2, tq_0_3, tq_0_4, tq_0_5, tq_0_6, tq_t, tq_s, tk_128, tq_128_0, tq_128_1, tw_va_s, tw_va_n, tw_K_s, tw_K_n, and_true, true_and, and_false, false_and, true_or, or_true, not_true_eq_false, not_false_eq_true, ↓reduceIte, Nat.reduceEqDiff, tw_p_hit hC]
set_option maxRecDepth 100000 in
theorem tw_q_when (hC : tw_Mh mi T sm hd) (x : Int32) : tw_E sc (d + 1) 156 0 [some (.ref 139), some (.int x)] [] tw_g0 mi (tw_r0 t s i) Q = Q (some (.int (tw_wh T hd x))) tw_g0 (tw_th mi) (tw_r0 t s i) := by
  simp only [tz_156_0, tz_156_1, tz_156_2, tz_156_5, tz_156_6, tz_156_7, tz_156_10, tk_139, tq_139_1, tq_139_6, tq_139_7, tq_139_8, tq_139_9, tq_139_10, tq_139_12, tq_139_13, tq_139_14, tq_139_15, tq_139_16, tq_139_17, tq_139_18, tq_139_19, tq_139_21, tq_139_22, tq_139_24, tq_139_26, tq_139_27, tq_139_28, tq_139_34, tq_139_35, tq_139_36, tq_139_37, tw_va_s, tw_va_n, tw_K_s, tw_K_n, and_true, true_and, and_false, false_and, true_or, or_true, not_true_eq_false, not_false_eq_true, ↓reduceIte, Nat.reduceEqDiff]
  rw [show tw_st mi 139 (tw_st (mi 139) 0 0) = tw_th mi from rfl, tw_q_tick (tw_Mh_th hC)]
  simp only [tz_156_0, tz_156_1, tz_156_2, tz_156_5, tz_156_6, tz_156_7, tz_156_10, tw_va_s, tw_va_n, tw_K_s, tw_K_n, and_true, true_and, and_false, false_and, true_or, or_true, not_true_eq_false, not_false_eq_true, ↓reduceIte, Nat.reduceEqDiff]
end tw_when
