/-! one run of what is caught; one mark -/
/-- answer to run(x, ask): by the begin of the run -/
def tw_rn (C : Nat) (ca : Nat → Int32) (x a : Int32) : Int32 :=
  if 0 ≤ x ∧ x < nI (tw_cn (tw_sf ca 65535) C) then (if 0 ≤ a ∧ a ≤ 1 then (if a = 0 then ca (tw_fi (tw_sf ca 65535) x.toNatClampNeg C 0).toNatClampNeg else nI (tw_nx (tw_sf ca 65535) (C - ((tw_fi (tw_sf ca 65535) x.toNatClampNeg C 0).toNatClampNeg + 1)) ((tw_fi (tw_sf ca 65535) x.toNatClampNeg C 0).toNatClampNeg + 1) - (tw_fi (tw_sf ca 65535) x.toNatClampNeg C 0).toNatClampNeg)) else -2) else -1
set_option maxRecDepth 100000 in
theorem tw_fi_spec (hd : Nat → Int32) (k : Nat) : ∀ f u, tw_cn hd u ≤ k → k < tw_cn hd (u + f) → ∃ v, u ≤ v ∧ v < u + f ∧ hd v ≠ 0 ∧ tw_cn hd v = k ∧ tw_fi hd k f u = nI v := by
  intro f
  induction f with
  | zero => intro u h1 h2; simp at h2; omega
  | succ f ih =>
    intro u h1 h2
    simp only [tw_fi]
    by_cases h : hd u ≠ 0 ∧ tw_cn hd u = k
    · exact ⟨u, Nat.le_refl _, by omega, h.1, h.2, by rw [if_pos h]⟩
    · rw [if_neg h]
      have hc : tw_cn hd (u + 1) ≤ k := by
        simp only [tw_cn]
        by_cases h0 : hd u = 0
        · rw [if_pos h0]; omega
        · rw [if_neg h0]
          have : tw_cn hd u ≠ k := fun q => h ⟨h0, q⟩
          omega
      obtain ⟨v, a, b, c, e, q⟩ := ih (u + 1) hc (by rw [show u + 1 + f = u + (f + 1) by omega]; exact h2)
      exact ⟨v, by omega, by omega, c, e, q⟩
set_option maxRecDepth 100000 in
theorem tw_nx_spec (sf : Nat → Int32) : ∀ f k, k ≤ tw_nx sf f k ∧ tw_nx sf f k ≤ k + f ∧ (∀ j, k ≤ j → j < tw_nx sf f k → sf j = 0) ∧ (tw_nx sf f k < k + f → sf (tw_nx sf f k) ≠ 0) := by
  intro f
  induction f with
  | zero => intro k; exact ⟨Nat.le_refl _, Nat.le_refl _, fun j h1 h2 => by simp only [tw_nx] at h2; omega, fun h => by simp only [tw_nx] at h; omega⟩
  | succ f ih =>
    intro k
    simp only [tw_nx]
    by_cases h : sf k = 0
    · rw [if_pos h]
      obtain ⟨a, b, c, e⟩ := ih (k + 1)
      refine ⟨by omega, by omega, fun j h1 h2 => ?_, fun q => e (by omega)⟩
      rcases Nat.lt_or_ge k j with h3 | h3
      · exact c j h3 h2
      · rw [show j = k by omega]; exact h
    · rw [if_neg h]
      exact ⟨Nat.le_refl _, by omega, fun j h1 h2 => by omega, fun _ => h⟩
set_option maxRecDepth 100000 in
theorem tw_cn_flat {sf : Nat → Int32} {a : Nat} : ∀ {b : Nat}, a ≤ b → (∀ j, a ≤ j → j < b → sf j = 0) → tw_cn sf b = tw_cn sf a := by
  intro b hb
  induction hb with
  | refl => intro _; rfl
  | @step b hb ih =>
    intro h
    have h0 : sf b = 0 := h b hb (by omega)
    simp only [tw_cn, h0, ↓reduceIte, Nat.add_zero]
    exact ih (fun j h1 h2 => h j h1 (by omega))
section tw_runp
variable {sc : Nat × (Nat → Int32)} {d t s i : Nat} {mi : tw_I} {mr : tw_Q} {g : tw_G} {Q : Option Value → tw_G → tw_I → tw_Q → Prop} {T C M : Nat} {sm hd ca mk mv mt : Nat → Int32}
set_option maxRecDepth 100000 in
theorem tw_p_rsl (hC : tw_Cc mi C ca) {k : Nat} (hk : k < 2 ^ 31) (x : Int32) : ∀ f u, C = u + f → tw_cn (tw_sf ca 65535) u ≤ k → tw_E sc (d + 2) 105 4 [some (.ref 131), some (.int x), some (.int (nI (k - tw_cn (tw_sf ca 65535) u))), some (.int (nI u))] [] tw_g0 mi (tw_r0 t s i) Q = Q (some (.int (tw_fi (tw_sf ca 65535) k f u))) tw_g0 mi (tw_r0 t s i) := by
  have hT := hC.1
  intro f
  induction f with
  | zero =>
    intro u hu hc
    rw [tz_105_4]
    simp only [tz_105_0, tz_105_1, tz_105_2, tz_105_3, tz_105_5, tz_105_6, tz_105_9, tz_105_12, tz_105_13, tz_105_16, tz_105_17, tz_105_18, tz_105_20, tz_105_23, tz_105_26, tz_105_27, tz_105_30, tz_105_31, tz_105_32, tz_105_35, tz_105_38, tz_105_41, tz_105_43, tk_131, tq_131_0, tw_va_s, tw_va_n, tw_K_s, tw_K_n, and_true, true_and, and_false, false_and, true_or, or_true, not_true_eq_false, not_false_eq_true, ↓reduceIte, Nat.reduceEqDiff, hC.2.1, tw_fi]
    rw [tw_le_t (by omega) (by omega)]
  | succ f ih =>
    intro u hu hc
    have h00 : ¬ nI (k - tw_cn (tw_sf ca 65535) u) < 0 := nI_pos (by omega)
    rw [tz_105_4]
    simp only [tz_105_0, tz_105_1, tz_105_2, tz_105_3, tz_105_5, tz_105_6, tz_105_9, tz_105_12, tz_105_13, tz_105_16, tz_105_17, tz_105_18, tz_105_20, tz_105_23, tz_105_26, tz_105_27, tz_105_30, tz_105_31, tz_105_32, tz_105_35, tz_105_38, tz_105_41, tz_105_43, tk_131, tq_131_0, tw_va_s, tw_va_n, tw_K_s, tw_K_n, and_true, true_and, and_false, false_and, true_or, or_true, not_true_eq_false, not_false_eq_true, ↓reduceIte, Nat.reduceEqDiff, hC.2.1, tw_p_starts hC 65535 (show u < C by omega), h00, tw_fi, nI_1]
    rw [tw_le_f (by omega) (by omega)]
    have := ih (u + 1) (by omega)
    by_cases h0 : tw_sf ca 65535 u = 0
    · rw [show tw_cn (tw_sf ca 65535) (u + 1) = tw_cn (tw_sf ca 65535) u by simp [tw_cn, h0]] at this
      rw [if_pos h0, if_neg (fun q => q.1 h0)]
      exact this (by omega)
    · rw [show tw_cn (tw_sf ca 65535) (u + 1) = tw_cn (tw_sf ca 65535) u + 1 by simp [tw_cn, h0]] at this
      rw [if_neg h0]
      by_cases hk2 : tw_cn (tw_sf ca 65535) u = k
      · subst hk2
        rw [Nat.sub_self, nI_0]
        simp [h0]
      · have hs : nI (k - tw_cn (tw_sf ca 65535) u) + (-1) = nI (k - (tw_cn (tw_sf ca 65535) u + 1)) := by
          obtain ⟨z, hz⟩ : ∃ z, k - tw_cn (tw_sf ca 65535) u = z + 1 := ⟨k - tw_cn (tw_sf ca 65535) u - 1, by omega⟩
          rw [hz, pk_m1]
          congr 1
          omega
        rw [if_pos (nI_ne0 (by omega) (by omega)), hs, if_neg (fun q => hk2 q.2)]
        exact this (by omega)
set_option maxRecDepth 100000 in
theorem tw_fi_none (hd : Nat → Int32) (k : Nat) : ∀ f u, tw_cn hd (u + f) ≤ k → tw_fi hd k f u = -9 := by
  intro f
  induction f with
  | zero => intro u _; rfl
  | succ f ih =>
    intro u h
    simp only [tw_fi]
    have h1 : tw_cn hd (u + 1) ≤ tw_cn hd (u + (f + 1)) := tw_cn_mono hd (by omega)
    rw [if_neg (fun q => by
      have : tw_cn hd (u + 1) = tw_cn hd u + 1 := by simp [tw_cn, q.1]
      omega)]
    exact ih (u + 1) (by rw [show u + 1 + f = u + (f + 1) by omega]; exact h)
set_option maxRecDepth 100000 in
theorem tw_p_rst (hC : tw_Cc mi C ca) (x : Int32) : tw_E sc (d + 2) 105 0 [some (.ref 131), some (.int x), none, none] [] tw_g0 mi (tw_r0 t s i) Q = Q (some (.int (if 0 ≤ x ∧ x < nI (tw_cn (tw_sf ca 65535) C) then tw_fi (tw_sf ca 65535) x.toNatClampNeg C 0 else -9))) tw_g0 mi (tw_r0 t s i) := by
  have hT := hC.1
  have hle := tw_cn_le (tw_sf ca 65535) C
  simp only [tz_105_0, tz_105_1, tz_105_2, tz_105_3, tz_105_5, tz_105_6, tz_105_9, tz_105_12, tz_105_13, tz_105_16, tz_105_17, tz_105_18, tz_105_20, tz_105_23, tz_105_26, tz_105_27, tz_105_30, tz_105_31, tz_105_32, tz_105_35, tz_105_38, tz_105_41, tz_105_43]
  rcases tw_ixc x (T := tw_cn (tw_sf ca 65535) C) (by omega) with ⟨c1, c2⟩ | ⟨c1, c2, c3, c4⟩ | ⟨j, hj, rfl, c1, c2, c3, c4, c5⟩
  · rw [if_neg c2, tz_105_4]
    simp only [tz_105_0, tz_105_1, tz_105_2, tz_105_3, tz_105_5, tz_105_6, tz_105_9, tz_105_12, tz_105_13, tz_105_16, tz_105_17, tz_105_18, tz_105_20, tz_105_23, tz_105_26, tz_105_27, tz_105_30, tz_105_31, tz_105_32, tz_105_35, tz_105_38, tz_105_41, tz_105_43, tk_131, tq_131_0, tw_va_s, tw_va_n, tw_K_s, tw_K_n, and_true, true_and, and_false, false_and, true_or, or_true, not_true_eq_false, not_false_eq_true, ↓reduceIte, Nat.reduceEqDiff, hC.2.1, c1]
    simp
  · obtain ⟨j, hj, rfl⟩ := nI_of c1
    rw [if_neg c4]
    have h := tw_p_rsl hC hj (nI j) (sc := sc) (d := d) (t := t) (s := s) (i := i) (Q := Q) C 0 (by omega) (Nat.zero_le _)
    have hcj : tw_cn (tw_sf ca 65535) C ≤ j := (nI_leI (by omega) hj).mp c2
    rw [tw_fi_none _ _ _ _ (by rw [Nat.zero_add]; exact hcj)] at h
    exact h
  · rw [if_pos c4, c5]
    exact tw_p_rsl hC (by omega) (nI j) C 0 (by omega) (Nat.zero_le _)
set_option maxRecDepth 100000 in
theorem tw_p_rll (hC : tw_Cc mi C ca) {v : Nat} : ∀ f u, C = u + f → v ≤ u → tw_E sc (d + 2) 106 4 [some (.ref 131), some (.int (nI v)), some (.int (nI u))] [] tw_g0 mi (tw_r0 t s i) Q = Q (some (.int (nI (tw_nx (tw_sf ca 65535) f u - v)))) tw_g0 mi (tw_r0 t s i) := by
  have hT := hC.1
  intro f
  induction f with
  | zero =>
    intro u hu hv
    rw [tz_106_4]
    simp only [tz_106_0, tz_106_1, tz_106_2, tz_106_3, tz_106_5, tz_106_6, tz_106_9, tz_106_12, tz_106_13, tz_106_14, tz_106_16, tz_106_19, tz_106_22, tz_106_25, tz_106_28, tz_106_29, tz_106_30, tz_106_31, tk_131, tq_131_0, tw_va_s, tw_va_n, tw_K_s, tw_K_n, and_true, true_and, and_false, false_and, true_or, or_true, not_true_eq_false, not_false_eq_true, ↓reduceIte, Nat.reduceEqDiff, hC.2.1, tw_nx, pk_sub hv]
    rw [tw_le_t (by omega) (by omega)]
  | succ f ih =>
    intro u hu hv
    rw [tz_106_4]
    simp only [tz_106_0, tz_106_1, tz_106_2, tz_106_3, tz_106_5, tz_106_6, tz_106_9, tz_106_12, tz_106_13, tz_106_14, tz_106_16, tz_106_19, tz_106_22, tz_106_25, tz_106_28, tz_106_29, tz_106_30, tz_106_31, tk_131, tq_131_0, tw_va_s, tw_va_n, tw_K_s, tw_K_n, and_true, true_and, and_false, false_and, true_or, or_true, not_true_eq_false, not_false_eq_true, ↓reduceIte, Nat.reduceEqDiff, hC.2.1, tw_p_starts hC 65535 (show u < C by omega), tw_nx, nI_1, pk_sub hv]
    rw [tw_le_f (by omega) (by omega)]
    by_cases h0 : tw_sf ca 65535 u = 0
    · rw [if_neg (fun q => q h0), if_pos h0]
      exact ih (u + 1) (by omega) (by omega)
    · rw [if_pos h0, if_neg h0]
set_option maxRecDepth 100000 in
theorem tw_p_run (hC : tw_Cc mi C ca) (x a : Int32) : tw_E sc (d + 3) 16 0 [some (.ref 0), some (.int x), some (.int a), none] [] tw_g0 mi (tw_r0 t s i) Q = Q (some (.int (tw_rn C ca x a))) tw_g0 mi (tw_r0 t s i) := by
  have hT := hC.1
  have hle := tw_cn_le (tw_sf ca 65535) C
  simp only [tz_16_0, tz_16_1, tz_16_4, tz_16_5, tz_16_8, tz_16_9, tz_16_10, tz_16_12, tz_16_15, tz_16_16, tz_16_17, tz_16_18, tz_16_21, tz_16_22, tz_16_23, tz_16_26, tz_16_28, tz_16_29, tz_16_30, tz_16_33, tz_16_34, tz_16_37, tz_16_38, tz_16_41, tz_16_44, tz_16_45, tz_16_48, tz_16_49, tz_16_52, tk_0, tq_0_0, tq_0_1, tq_0_2, tq_0_3, tq_0_4, tq_0_5, tq_0_6, tq_t, tq_s, tk_131, tq_131_0, tw_va_s, tw_va_n, tw_K_s, tw_K_n, and_true, true_and, and_false, false_and, true_or, or_true, not_true_eq_false, not_false_eq_true, ↓reduceIte, Nat.reduceEqDiff, tw_p_rst hC]
  by_cases hx : 0 ≤ x ∧ x < nI (tw_cn (tw_sf ca 65535) C)
  · have hxn : x.toNatClampNeg < tw_cn (tw_sf ca 65535) C := by
      rcases tw_ixc x (T := tw_cn (tw_sf ca 65535) C) (by omega) with ⟨c1, c2⟩ | ⟨c1, c2, c3, c4⟩ | ⟨j, hj, rfl, c1, c2, c3, c4, c5⟩
      · exact absurd hx c2
      · exact absurd hx c4
      · rw [c5]; exact hj
    obtain ⟨v, hv0, hv1, hv2, hv3, hv4⟩ := tw_fi_spec (tw_sf ca 65535) x.toNatClampNeg C 0 (Nat.zero_le _) (by rw [Nat.zero_add]; exact hxn)
    have hne : ¬ nI v = -9 := fun q => by
      have h1 : nI v < 0 := by rw [q]; decide
      exact absurd h1 (nI_pos (by omega))
    simp only [tw_rn, if_pos hx, hv4, nI_clamp (show v < 2 ^ 31 by omega), tw_p_csam hC, tw_get_in (show C < 2 ^ 31 by omega) (show v < C by omega), tz_16_0, tz_16_1, tz_16_4, tz_16_5, tz_16_8, tz_16_9, tz_16_10, tz_16_12, tz_16_15, tz_16_16, tz_16_17, tz_16_18, tz_16_21, tz_16_22, tz_16_23, tz_16_26, tz_16_28, tz_16_29, tz_16_30, tz_16_33, tz_16_34, tz_16_37, tz_16_38, tz_16_41, tz_16_44, tz_16_45, tz_16_48, tz_16_49, tz_16_52, tz_106_0, tz_106_1, tz_106_2, tz_106_3, tz_106_5, tz_106_6, tz_106_9, tz_106_12, tz_106_13, tz_106_14, tz_106_16, tz_106_19, tz_106_22, tz_106_25, tz_106_28, tz_106_29, tz_106_30, tz_106_31, tk_0, tq_0_0, tq_0_1, tq_0_2, tq_0_3, tq_0_4, tq_0_5, tq_0_6, tq_t, tq_s, tk_131, tq_131_0, tw_va_s, tw_va_n, tw_K_s, tw_K_n, and_true, true_and, and_false, false_and, true_or, or_true, not_true_eq_false, not_false_eq_true, ↓reduceIte, Nat.reduceEqDiff, nI_1]
    rw [if_pos hne]
    by_cases ha : a < 0
    · rw [if_pos ha, if_neg (show ¬ (0 ≤ a ∧ a ≤ 1) from fun q => absurd ha (Int32.not_lt.mpr q.1))]
    · rw [if_neg ha]
      by_cases ha1 : a ≤ 1
      · rw [if_pos ha1, if_pos (show 0 ≤ a ∧ a ≤ 1 from ⟨Int32.not_lt.mp ha, ha1⟩)]
        by_cases ha0 : a = 0
        · subst ha0
          simp
        · rw [if_pos ha0, if_neg ha0, tw_p_rll hC (C - (v + 1)) (v + 1) (by omega) (by omega)]
          simp only [tz_16_0, tz_16_1, tz_16_4, tz_16_5, tz_16_8, tz_16_9, tz_16_10, tz_16_12, tz_16_15, tz_16_16, tz_16_17, tz_16_18, tz_16_21, tz_16_22, tz_16_23, tz_16_26, tz_16_28, tz_16_29, tz_16_30, tz_16_33, tz_16_34, tz_16_37, tz_16_38, tz_16_41, tz_16_44, tz_16_45, tz_16_48, tz_16_49, tz_16_52, tw_va_s, tw_va_n, tw_K_s, tw_K_n, and_true, true_and, and_false, false_and, true_or, or_true, not_true_eq_false, not_false_eq_true, ↓reduceIte, Nat.reduceEqDiff]
      · rw [if_neg ha1, if_neg (show ¬ (0 ≤ a ∧ a ≤ 1) from fun q => ha1 q.2)]
  · simp only [if_neg hx, tw_rn, not_true_eq_false, ↓reduceIte]
set_option maxRecDepth 100000 in
theorem tw_q_runl (hC : tw_Mc mi C ca) (h16 : ∀ j, j < C → tw_16 (ca j)) {r v e : Nat} (a : Int32) (hv : v < C) (hve : v < e) (heC : e ≤ C) (hcv : tw_cn (tw_sf ca 65535) v = r) (hsv : tw_sf ca 65535 v ≠ 0) (hz : ∀ j, v + 1 ≤ j → j < e → tw_sf ca 65535 j = 0) (hen : e < C → tw_sf ca 65535 e ≠ 0) : ∀ f u, C = u + f → tw_E sc d 162 49 [some (.ref 139), some (.int (nI r)), some (.int a), some (.int (nI (tw_cn (tw_sf ca 65535) u) + (-1))), some (.int (nI (if u ≤ v then 0 else if u ≤ e then u - v else e - v))), some (.int (if u ≤ v then 0 else ca v)), some (.int (nI u))] [] tw_g0 mi (tw_r0 t s i) Q = Q (some (.int (if a = 0 then ca v else nI (e - v)))) tw_g0 mi (tw_r0 t s i) := by
  obtain ⟨hT, h1, h3⟩ := hC
  have hle := tw_cn_le (tw_sf ca 65535) C
  have hra : tw_cn (tw_sf ca 65535) (v + 1) = r + 1 := by simp [tw_cn, hsv, hcv]
  have hsame : ∀ j, v ≤ j → j < e → ca j = ca v := by
    intro j hj
    induction hj with
    | refl => intro _; rfl
    | @step j hj ih =>
      intro hje
      have h0 := hz (j + 1) (Nat.succ_le_succ hj) hje
      have e1 := tw_16_and (h16 (j + 1) (by omega))
      have e2 := tw_16_and (h16 j (by omega))
      have h4 : ca (j + 1) &&& 65535 = ca j &&& 65535 := by
        unfold tw_sf at h0
        split at h0
        · exact absurd h0 (by decide)
        · rename_i hn
          have := fun q => hn (Or.inr q)
          simpa using Classical.not_not.mp this
      rw [e1, e2] at h4
      exact h4.trans (ih (Nat.lt_of_succ_lt hje))
  have hcu : ∀ u, u ≤ C → (tw_cn (tw_sf ca 65535) (u + 1) = r + 1 ↔ (v ≤ u ∧ u < e)) ∨ u = C := by
    intro u hu
    rcases Nat.lt_or_ge u C with huC | huC
    · refine Or.inl ⟨fun h => ?_, fun h => ?_⟩
      · constructor
        · rcases Nat.lt_or_ge u v with q | q
          · have : tw_cn (tw_sf ca 65535) (u + 1) ≤ tw_cn (tw_sf ca 65535) v := tw_cn_mono _ (by omega)
            omega
          · exact q
        · rcases Nat.lt_or_ge u e with q | q
          · exact q
          · have hs := hen (by omega)
            have q1 : tw_cn (tw_sf ca 65535) (e + 1) = tw_cn (tw_sf ca 65535) e + 1 := by simp [tw_cn, hs]
            have q2 : tw_cn (tw_sf ca 65535) (v + 1) ≤ tw_cn (tw_sf ca 65535) e := tw_cn_mono _ (by omega)
            have q3 : tw_cn (tw_sf ca 65535) (e + 1) ≤ tw_cn (tw_sf ca 65535) (u + 1) := tw_cn_mono _ (by omega)
            omega
      · rw [tw_cn_flat (a := v + 1) (b := u + 1) (by omega) (fun j q1 q2 => hz j q1 (by omega)), hra]
    · exact Or.inr (by omega)
  intro f
  induction f with
  | zero =>
    intro u hu
    obtain rfl : C = u := hu
    rw [tz_162_49]
    simp only [tz_162_0, tz_162_1, tz_162_2, tz_162_5, tz_162_6, tz_162_7, tz_162_8, tz_162_9, tz_162_11, tz_162_14, tz_162_15, tz_162_16, tz_162_17, tz_162_20, tz_162_23, tz_162_24, tz_162_25, tz_162_26, tz_162_27, tz_162_28, tz_162_29, tz_162_32, tz_162_35, tz_162_37, tz_162_38, tz_162_39, tz_162_40, tz_162_41, tz_162_43, tz_162_44, tz_162_46, tz_162_47, tz_162_51, tz_162_52, tz_162_55, tz_162_58, tz_162_59, tz_162_61, tz_162_64, tz_162_65, tz_162_68, tz_162_70, tz_162_71, tz_162_72, tz_162_75, tz_162_77, tz_162_78, tz_162_79, tz_162_80, tz_162_83, tz_162_84, tz_162_87, tz_162_88, tz_162_89, tz_162_90, tz_162_92, tz_162_93, tz_162_94, tz_162_97, tz_162_98, tz_162_101, tz_162_102, tz_162_103, tz_162_105, tz_162_106, tz_162_107, tz_162_110, tz_162_111, tz_162_114, tz_162_116, tz_162_117, tz_162_120, tz_162_122, tz_162_124, tz_162_127, tz_162_130, tz_162_131, tz_162_134, tz_162_136, tz_162_139, tz_162_141, tk_139, tq_139_1, tq_139_6, tq_139_7, tq_139_8, tq_139_9, tq_139_10, tq_139_12, tq_139_13, tq_139_14, tq_139_15, tq_139_16, tq_139_17, tq_139_18, tq_139_19, tq_139_21, tq_139_22, tq_139_24, tq_139_26, tq_139_27, tq_139_28, tq_139_34, tq_139_35, tq_139_36, tq_139_37, tw_va_s, tw_va_n, tw_K_s, tw_K_n, and_true, true_and, and_false, false_and, true_or, or_true, not_true_eq_false, not_false_eq_true, ↓reduceIte, Nat.reduceEqDiff, h1]
    have e1 : ¬ C ≤ v := by omega
    have e2 : (if C ≤ e then C - v else e - v) = e - v := by
      by_cases hCe : C ≤ e
      · rw [if_pos hCe]; omega
      · rw [if_neg hCe]
    rw [tw_le_t (Nat.le_refl _) (by omega)]
    simp only [e1, e2, ↓reduceIte]
    by_cases ha : a = 0 <;> simp [ha]
  | succ f ih =>
    intro u hu
    have huC : u < C := by omega
    have hcl := tw_cn_le (tw_sf ca 65535) (u + 1)
    have hn : ∀ z : Int32, z = nI (tw_cn (tw_sf ca 65535) (u + 1)) + (-1) → ((z = nI r) ↔ (v ≤ u ∧ u < e)) := by
      intro z hz0
      have hpos : 1 ≤ tw_cn (tw_sf ca 65535) (u + 1) := Nat.le_trans (by simp [tw_cn, tw_sf_0]) (tw_cn_mono _ (show 1 ≤ u + 1 by omega))
      obtain ⟨w, hw⟩ : ∃ w, tw_cn (tw_sf ca 65535) (u + 1) = w + 1 := ⟨_, (Nat.succ_pred_eq_of_pos hpos).symm⟩
      rw [hz0, hw, pk_m1, nI_eq (by omega) (by have := tw_cn_le (tw_sf ca 65535) v; omega)]
      rcases hcu u (by omega) with q | q
      · rw [hw] at q
        constructor
        · intro h; exact q.mp (by omega)
        · intro h; have := q.mpr h; omega
      · omega
    have := ih (u + 1) (by omega)
    have step : ∀ (c : Int32), nI (tw_cn (tw_sf ca 65535) u) + (-1) + c = nI (tw_cn (tw_sf ca 65535) (u + 1)) + (-1) → tw_E sc d 162 88 [some (.ref 139), some (.int (nI r)), some (.int a), some (.int (nI (tw_cn (tw_sf ca 65535) u) + (-1))), some (.int (nI (if u ≤ v then 0 else if u ≤ e then u - v else e - v))), some (.int (if u ≤ v then 0 else ca v)), some (.int (nI u))] [.int c, .int (nI (tw_cn (tw_sf ca 65535) u) + (-1))] tw_g0 mi (tw_r0 t s i) Q = Q (some (.int (if a = 0 then ca v else nI (e - v)))) tw_g0 mi (tw_r0 t s i) := by
      intro c hc
      simp only [tz_162_0, tz_162_1, tz_162_2, tz_162_5, tz_162_6, tz_162_7, tz_162_8, tz_162_9, tz_162_11, tz_162_14, tz_162_15, tz_162_16, tz_162_17, tz_162_20, tz_162_23, tz_162_24, tz_162_25, tz_162_26, tz_162_27, tz_162_28, tz_162_29, tz_162_32, tz_162_35, tz_162_37, tz_162_38, tz_162_39, tz_162_40, tz_162_41, tz_162_43, tz_162_44, tz_162_46, tz_162_47, tz_162_51, tz_162_52, tz_162_55, tz_162_58, tz_162_59, tz_162_61, tz_162_64, tz_162_65, tz_162_68, tz_162_70, tz_162_71, tz_162_72, tz_162_75, tz_162_77, tz_162_78, tz_162_79, tz_162_80, tz_162_83, tz_162_84, tz_162_87, tz_162_88, tz_162_89, tz_162_90, tz_162_92, tz_162_93, tz_162_94, tz_162_97, tz_162_98, tz_162_101, tz_162_102, tz_162_103, tz_162_105, tz_162_106, tz_162_107, tz_162_110, tz_162_111, tz_162_114, tz_162_116, tz_162_117, tz_162_120, tz_162_122, tz_162_124, tz_162_127, tz_162_130, tz_162_131, tz_162_134, tz_162_136, tz_162_139, tz_162_141, tk_139, tq_139_1, tq_139_6, tq_139_7, tq_139_8, tq_139_9, tq_139_10, tq_139_12, tq_139_13, tq_139_14, tq_139_15, tq_139_16, tq_139_17, tq_139_18, tq_139_19, tq_139_21, tq_139_22, tq_139_24, tq_139_26, tq_139_27, tq_139_28, tq_139_34, tq_139_35, tq_139_36, tq_139_37, tk_156, tj_156, tw_va_s, tw_va_n, tw_K_s, tw_K_n, and_true, true_and, and_false, false_and, true_or, or_true, not_true_eq_false, not_false_eq_true, ↓reduceIte, Nat.reduceEqDiff, hc, hn _ rfl, nI_clamp (show u < 2 ^ 31 by omega), h3 u huC, vp_in_nI (show u < 1001 by omega) (by omega), nI_1]
      rw [← this]
      by_cases hin : v ≤ u ∧ u < e
      · rw [if_neg (fun q => q hin), if_neg (fun q => q hin)]
        rw [hsame u hin.1 hin.2, if_neg (show ¬ u + 1 ≤ v by omega), if_neg (show ¬ u + 1 ≤ v by omega), if_pos (show u + 1 ≤ e by omega)]
        rw [show (if u ≤ v then 0 else if u ≤ e then u - v else e - v) + 1 = u + 1 - v by
          by_cases q : u ≤ v
          · rw [if_pos q]; omega
          · rw [if_neg q, if_pos (show u ≤ e by omega)]; omega]
      · rw [if_pos hin, if_pos hin, Int32.add_zero]
        by_cases q : u + 1 ≤ v
        · rw [if_pos q, if_pos q, if_pos (show u ≤ v by omega), if_pos (show u ≤ v by omega)]
        · rw [if_neg q, if_neg q, if_neg (show ¬ u ≤ v by omega), if_neg (show ¬ u ≤ v by omega), if_neg (show ¬ u + 1 ≤ e by omega)]
          by_cases q2 : u ≤ e
          · rw [if_pos q2, show u - v = e - v by omega]
          · rw [if_neg q2]
    rw [tz_162_49, tz_162_51, tz_162_52]
    simp only [tk_139, tq_139_1, tq_139_6, tq_139_7, tq_139_8, tq_139_9, tq_139_10, tq_139_12, tq_139_13, tq_139_14, tq_139_15, tq_139_16, tq_139_17, tq_139_18, tq_139_19, tq_139_21, tq_139_22, tq_139_24, tq_139_26, tq_139_27, tq_139_28, tq_139_34, tq_139_35, tq_139_36, tq_139_37, tw_va_s, tw_va_n, tw_K_s, tw_K_n, and_true, true_and, and_false, false_and, true_or, or_true, not_true_eq_false, not_false_eq_true, ↓reduceIte, Nat.reduceEqDiff, h1]
    rw [tz_162_55, tw_le_f (by omega) (by omega), tz_162_58, tz_162_59, tz_162_61]
    cases u with
    | zero =>
      rw [if_pos nI_0, tz_162_83, tz_162_84]
      refine step 1 ?_
      simp [tw_cn, tw_sf_0, nI_0]
      decide
    | succ u =>
      have h0 : ¬ nI (u + 1) = 0 := nI_ne0 (by omega) (by omega)
      have hcs : (ca (u + 1) = ca u) ↔ tw_sf ca 65535 (u + 1) = 0 := by
        rw [← tw_16_and (h16 (u + 1) huC), ← tw_16_and (h16 u (by omega))]
        simp only [tw_sf, tw_16_and (h16 (u + 1) huC), tw_16_and (h16 u (by omega)), Nat.add_sub_cancel]
        by_cases q : ca (u + 1) = ca u <;> simp [q]
      rw [if_neg h0]
      simp only [tz_162_64, tz_162_65, tz_162_68, tz_162_70, tz_162_71, tz_162_72, tz_162_75, tz_162_77, tz_162_78, tz_162_79, tz_162_80, tz_162_83, tz_162_84, tz_162_87, tk_139, tq_139_1, tq_139_6, tq_139_7, tq_139_8, tq_139_9, tq_139_10, tq_139_12, tq_139_13, tq_139_14, tq_139_15, tq_139_16, tq_139_17, tq_139_18, tq_139_19, tq_139_21, tq_139_22, tq_139_24, tq_139_26, tq_139_27, tq_139_28, tq_139_34, tq_139_35, tq_139_36, tq_139_37, tk_156, tj_156, tw_va_s, tw_va_n, tw_K_s, tw_K_n, and_true, true_and, and_false, false_and, true_or, or_true, not_true_eq_false, not_false_eq_true, ↓reduceIte, Nat.reduceEqDiff, nI_pred, nI_clamp (show u + 1 < 2 ^ 31 by omega), nI_clamp (show u < 2 ^ 31 by omega), h3 (u + 1) huC, h3 u (by omega), vp_in_nI (show u + 1 < 1001 by omega) (by omega), vp_in_nI (show u < 1001 by omega) (by omega)]
      by_cases q : ca (u + 1) = ca u
      · rw [if_pos q]
        refine step 0 ?_
        simp [tw_cn, hcs.mp q]
      · rw [if_neg q]
        refine step 1 ?_
        have hs : tw_sf ca 65535 (u + 1) ≠ 0 := fun z => q (hcs.mpr z)
        rw [show tw_cn (tw_sf ca 65535) (u + 1 + 1) = tw_cn (tw_sf ca 65535) (u + 1) + 1 by simp [tw_cn, hs], pk_m1, Int32.add_assoc, show (-1 : Int32) + 1 = 0 by decide, Int32.add_zero]
set_option maxRecDepth 100000 in
theorem tw_q_run (hC : tw_Mc mi C ca) (h16 : ∀ j, j < C → tw_16 (ca j)) (x a : Int32) : tw_E sc (d + 1) 162 0 [some (.ref 139), some (.int x), some (.int a), none, none, none, none] [] tw_g0 mi (tw_r0 t s i) Q = Q (some (.int (tw_rn C ca x a))) tw_g0 (tw_th mi) (tw_r0 t s i) := by
  have hT := hC.1
  have hle := tw_cn_le (tw_sf ca 65535) C
  simp only [tz_162_0, tz_162_1, tz_162_2, tz_162_5, tz_162_6, tz_162_7, tz_162_8, tz_162_9, tz_162_11, tz_162_14, tz_162_15, tz_162_16, tz_162_17, tz_162_20, tz_162_23, tz_162_24, tz_162_25, tz_162_26, tz_162_27, tz_162_28, tz_162_29, tz_162_32, tz_162_35, tz_162_37, tz_162_38, tz_162_39, tz_162_40, tz_162_41, tz_162_43, tz_162_44, tz_162_46, tz_162_47, tz_162_51, tz_162_52, tz_162_55, tz_162_58, tz_162_59, tz_162_61, tz_162_64, tz_162_65, tz_162_68, tz_162_70, tz_162_71, tz_162_72, tz_162_75, tz_162_77, tz_162_78, tz_162_79, tz_162_80, tz_162_83, tz_162_84, tz_162_87, tz_162_88, tz_162_89, tz_162_90, tz_162_92, tz_162_93, tz_162_94, tz_162_97, tz_162_98, tz_162_101, tz_162_102, tz_162_103, tz_162_105, tz_162_106, tz_162_107, tz_162_110, tz_162_111, tz_162_114, tz_162_116, tz_162_117, tz_162_120, tz_162_122, tz_162_124, tz_162_127, tz_162_130, tz_162_131, tz_162_134, tz_162_136, tz_162_139, tz_162_141, tk_139, tq_139_1, tq_139_6, tq_139_7, tq_139_8, tq_139_9, tq_139_10, tq_139_12, tq_139_13, tq_139_14, tq_139_15, tq_139_16, tq_139_17, tq_139_18, tq_139_19, tq_139_21, tq_139_22, tq_139_24, tq_139_26, tq_139_27, tq_139_28, tq_139_34, tq_139_35, tq_139_36, tq_139_37, tw_va_s, tw_va_n, tw_K_s, tw_K_n, and_true, true_and, and_false, false_and, true_or, or_true, not_true_eq_false, not_false_eq_true, ↓reduceIte, Nat.reduceEqDiff]
  rw [show tw_st mi 139 (tw_st (mi 139) 0 0) = tw_th mi from rfl]
  simp only [tw_q_by (tw_Mc_th hC), tz_162_0, tz_162_1, tz_162_2, tz_162_5, tz_162_6, tz_162_7, tz_162_8, tz_162_9, tz_162_11, tz_162_14, tz_162_15, tz_162_16, tz_162_17, tz_162_20, tz_162_23, tz_162_24, tz_162_25, tz_162_26, tz_162_27, tz_162_28, tz_162_29, tz_162_32, tz_162_35, tz_162_37, tz_162_38, tz_162_39, tz_162_40, tz_162_41, tz_162_43, tz_162_44, tz_162_46, tz_162_47, tz_162_51, tz_162_52, tz_162_55, tz_162_58, tz_162_59, tz_162_61, tz_162_64, tz_162_65, tz_162_68, tz_162_70, tz_162_71, tz_162_72, tz_162_75, tz_162_77, tz_162_78, tz_162_79, tz_162_80, tz_162_83, tz_162_84, tz_162_87, tz_162_88, tz_162_89, tz_162_90, tz_162_92, tz_162_93, tz_162_94, tz_162_97, tz_162_98, tz_162_101, tz_162_102, tz_162_103, tz_162_105, tz_162_106, tz_162_107, tz_162_110, tz_162_111, tz_162_114, tz_162_116, tz_162_117, tz_162_120, tz_162_122, tz_162_124, tz_162_127, tz_162_130, tz_162_131, tz_162_134, tz_162_136, tz_162_139, tz_162_141, tw_va_s, tw_va_n, tw_K_s, tw_K_n, and_true, true_and, and_false, false_and, true_or, or_true, not_true_eq_false, not_false_eq_true, ↓reduceIte, Nat.reduceEqDiff, tw_L0, tw_L1, tw_q_in, tw_inT (show tw_cn (tw_sf ca 65535) C < 2 ^ 31 by omega), tw_b0]
  by_cases hx : 0 ≤ x ∧ x < nI (tw_cn (tw_sf ca 65535) C)
  · obtain ⟨j, hj, rfl⟩ : ∃ j, j < tw_cn (tw_sf ca 65535) C ∧ x = nI j := by
      rcases tw_ixc x (T := tw_cn (tw_sf ca 65535) C) (by omega) with ⟨c1, c2⟩ | ⟨c1, c2, c3, c4⟩ | ⟨j, hj, rfl, c1, c2, c3, c4, c5⟩
      · exact absurd hx c2
      · exact absurd hx c4
      · exact ⟨j, hj, rfl⟩
    obtain ⟨v, hv0, hv1, hv2, hv3, hv4⟩ := tw_fi_spec (tw_sf ca 65535) j C 0 (Nat.zero_le _) (by rw [Nat.zero_add]; exact hj)
    obtain ⟨n1, n2, n3, n4⟩ := tw_nx_spec (tw_sf ca 65535) (C - (v + 1)) (v + 1)
    simp only [tw_rn, if_pos hx, nI_clamp (show j < 2 ^ 31 by omega), hv4, nI_clamp (show v < 2 ^ 31 by omega), hx, and_self, true_or, not_true_eq_false, ↓reduceIte, not_false_eq_true]
    by_cases ha : 0 ≤ a ∧ a ≤ 1
    · have key := tw_q_runl (tw_Mc_th hC) h16 (sc := sc) (d := d + 1) (t := t) (s := s) (i := i) (Q := Q) a (by omega) (show v < tw_nx (tw_sf ca 65535) (C - (v + 1)) (v + 1) by omega) (by omega) hv3 hv2 n3 (fun q => n4 (by omega)) C 0 (by omega)
      simp only [tw_cn, Nat.zero_le, ↓reduceIte, nI_0, show (0 : Int32) + (-1) = -1 by decide] at key
      simp only [ha, and_self, not_true_eq_false, ↓reduceIte, not_false_eq_true]
      simpa using key
    · simp only [ha, not_false_eq_true, ↓reduceIte]
      simp
  · simp only [tw_rn, hx, not_false_eq_true, ↓reduceIte]
    simp
set_option maxRecDepth 100000 in
theorem tw_Mm_th (hC : tw_Mm mi M mk mv mt) : tw_Mm (tw_th mi) M mk mv mt := ⟨hC.1, by rw [tw_th_x mi (by decide)]; exact hC.2.1, fun j hj => by rw [tw_th_a mi (by decide), tw_th_a mi (by decide), tw_th_a mi (by decide)]; exact hC.2.2 j hj⟩
/-- answer to mark(x, a) -/
def tw_mg (M : Nat) (mk mv mt : Nat → Int32) (x a : Int32) : Int32 := if 0 ≤ x ∧ x < nI M then (if a = 0 then mk x.toNatClampNeg else if a = 1 then mv x.toNatClampNeg else if a = 2 then mt x.toNatClampNeg else -2) else -1
set_option maxRecDepth 100000 in
theorem tw_sw3 (a : Int32) (t0 t1 t2 e : Nat) : tw_sw a 0 [t0, t1, t2] e = if a = 0 then t0 else if a = 1 then t1 else if a = 2 then t2 else e := by
  by_cases h0 : a = 0
  · subst h0; rfl
  by_cases h1 : a = 1
  · subst h1; rfl
  by_cases h2 : a = 2
  · subst h2; rfl
  rw [if_neg h0, if_neg h1, if_neg h2]
  unfold tw_sw
  split
  · rfl
  · rename_i h
    have e0 : a.toInt ≠ 0 := fun q => h0 (Int32.toInt_inj.mp (by rw [q]; rfl))
    have e1 : a.toInt ≠ 1 := fun q => h1 (Int32.toInt_inj.mp (by rw [q]; rfl))
    have e2 : a.toInt ≠ 2 := fun q => h2 (Int32.toInt_inj.mp (by rw [q]; rfl))
    obtain ⟨z, hz⟩ : ∃ z, (a.toInt - 0).toNat = z + 3 := ⟨(a.toInt - 0).toNat - 3, by omega⟩
    rw [hz]
    rfl
set_option maxRecDepth 100000 in
theorem tw_p_mark (hC : tw_Cm mi M mk mv mt) (x a : Int32) : tw_E sc (d + 1) 20 0 [some (.ref 0), some (.int x), some (.int a)] [] tw_g0 mi (tw_r0 t s i) Q = Q (some (.int (tw_mg M mk mv mt x a))) tw_g0 mi (tw_r0 t s i) := by
  obtain ⟨hT, h1, h3⟩ := hC
  simp only [tz_20_0, tz_20_1, tz_20_4, tz_20_5, tz_20_6, tz_20_9, tz_114_0, tz_114_1, tz_114_4, tz_114_5, tz_114_6, tz_114_9, tz_114_12, tz_114_13, tz_114_14, tz_114_15, tz_114_40, tz_114_41, tz_114_44, tz_114_45, tz_114_46, tz_114_47, tz_114_48, tz_114_51, tz_114_52, tz_114_53, tz_114_54, tz_114_55, tz_114_58, tz_114_59, tz_114_60, tz_114_61, tz_114_63, tk_0, tq_0_0, tq_0_1, tq_0_2, tq_0_3, tq_0_4, tq_0_5, tq_0_6, tq_t, tq_s, tk_133, tq_133_0, tq_133_1, tq_133_2, tw_va_s, tw_va_n, tw_K_s, tw_K_n, and_true, true_and, and_false, false_and, true_or, or_true, not_true_eq_false, not_false_eq_true, ↓reduceIte, Nat.reduceEqDiff, h1, tw_sw3]
  rcases tw_ixc x (T := M) (by omega) with ⟨c1, c2⟩ | ⟨c1, c2, c3, c4⟩ | ⟨j, hj, rfl, c1, c2, c3, c4, c5⟩
  · simp only [tw_mg, c1, c2, ↓reduceIte]
  · simp only [tw_mg, c1, c3, and_false, ↓reduceIte]
  · obtain ⟨g1, g2, g3⟩ := h3 j hj
    have hv : vp_in (nI j) 400 := vp_in_nI (by omega) (by omega)
    simp only [tw_mg, c1, c3, c4, and_self, ↓reduceIte, c5]
    by_cases a0 : a = 0
    · simp only [a0, ↓reduceIte, tz_114_0, tz_114_1, tz_114_4, tz_114_5, tz_114_6, tz_114_9, tz_114_12, tz_114_13, tz_114_14, tz_114_15, tz_114_40, tz_114_41, tz_114_44, tz_114_45, tz_114_46, tz_114_47, tz_114_48, tz_114_51, tz_114_52, tz_114_53, tz_114_54, tz_114_55, tz_114_58, tz_114_59, tz_114_60, tz_114_61, tz_114_63, tk_133, tq_133_0, tq_133_1, tq_133_2, tk_134, tj_134, tw_va_s, tw_va_n, tw_K_s, tw_K_n, and_true, true_and, and_false, false_and, true_or, or_true, not_true_eq_false, not_false_eq_true, ↓reduceIte, Nat.reduceEqDiff, c5, g1, hv, tz_20_0, tz_20_1, tz_20_4, tz_20_5, tz_20_6, tz_20_9]
    · by_cases a1 : a = 1
      · subst a1
        simp only [show ¬ (1 : Int32) = 0 by decide, ↓reduceIte, tz_114_0, tz_114_1, tz_114_4, tz_114_5, tz_114_6, tz_114_9, tz_114_12, tz_114_13, tz_114_14, tz_114_15, tz_114_40, tz_114_41, tz_114_44, tz_114_45, tz_114_46, tz_114_47, tz_114_48, tz_114_51, tz_114_52, tz_114_53, tz_114_54, tz_114_55, tz_114_58, tz_114_59, tz_114_60, tz_114_61, tz_114_63, tk_133, tq_133_0, tq_133_1, tq_133_2, tk_135, tj_135, tw_va_s, tw_va_n, tw_K_s, tw_K_n, and_true, true_and, and_false, false_and, true_or, or_true, not_true_eq_false, not_false_eq_true, ↓reduceIte, Nat.reduceEqDiff, c5, g2, hv, tz_20_0, tz_20_1, tz_20_4, tz_20_5, tz_20_6, tz_20_9]
      · by_cases a2 : a = 2
        · subst a2
          simp only [show ¬ (2 : Int32) = 0 by decide, show ¬ (2 : Int32) = 1 by decide, ↓reduceIte, tz_114_0, tz_114_1, tz_114_4, tz_114_5, tz_114_6, tz_114_9, tz_114_12, tz_114_13, tz_114_14, tz_114_15, tz_114_40, tz_114_41, tz_114_44, tz_114_45, tz_114_46, tz_114_47, tz_114_48, tz_114_51, tz_114_52, tz_114_53, tz_114_54, tz_114_55, tz_114_58, tz_114_59, tz_114_60, tz_114_61, tz_114_63, tk_133, tq_133_0, tq_133_1, tq_133_2, tk_136, tj_136, tw_va_s, tw_va_n, tw_K_s, tw_K_n, and_true, true_and, and_false, false_and, true_or, or_true, not_true_eq_false, not_false_eq_true, ↓reduceIte, Nat.reduceEqDiff, c5, g3, hv, tz_20_0, tz_20_1, tz_20_4, tz_20_5, tz_20_6, tz_20_9]
        · simp only [a0, a1, a2, ↓reduceIte, tz_114_0, tz_114_1, tz_114_4, tz_114_5, tz_114_6, tz_114_9, tz_114_12, tz_114_13, tz_114_14, tz_114_15, tz_114_40, tz_114_41, tz_114_44, tz_114_45, tz_114_46, tz_114_47, tz_114_48, tz_114_51, tz_114_52, tz_114_53, tz_114_54, tz_114_55, tz_114_58, tz_114_59, tz_114_60, tz_114_61, tz_114_63, tk_133, tq_133_0, tq_133_1, tq_133_2, tw_va_s, tw_va_n, tw_K_s, tw_K_n, and_true, true_and, and_false, false_and, true_or, or_true, not_true_eq_false, not_false_eq_true, ↓reduceIte, Nat.reduceEqDiff, tz_20_0, tz_20_1, tz_20_4, tz_20_5, tz_20_6, tz_20_9]
set_option maxRecDepth 100000 in
theorem tw_q_mark (hC : tw_Mm mi M mk mv mt) (x a : Int32) : tw_E sc (d + 1) 169 0 [some (.ref 139), some (.int x), some (.int a)] [] tw_g0 mi (tw_r0 t s i) Q = Q (some (.int (tw_mg M mk mv mt x a))) tw_g0 (tw_th mi) (tw_r0 t s i) := by
  obtain ⟨hT, h1, h3⟩ := hC
  simp only [tz_169_0, tz_169_1, tz_169_2, tz_169_5, tz_169_6, tz_169_7, tz_169_8, tz_169_9, tz_169_12, tz_169_13, tz_169_14, tz_169_15, tz_169_18, tz_169_21, tz_169_22, tz_169_23, tz_169_24, tz_169_27, tz_169_28, tz_169_31, tz_169_32, tz_169_33, tz_169_36, tz_169_37, tz_169_38, tz_169_41, tz_169_42, tz_169_45, tz_169_46, tz_169_47, tz_169_50, tz_169_51, tz_169_52, tz_169_55, tz_169_56, tz_169_59, tz_169_60, tz_169_61, tz_169_64, tz_169_66, tk_139, tq_139_1, tq_139_6, tq_139_7, tq_139_8, tq_139_9, tq_139_10, tq_139_12, tq_139_13, tq_139_14, tq_139_15, tq_139_16, tq_139_17, tq_139_18, tq_139_19, tq_139_21, tq_139_22, tq_139_24, tq_139_26, tq_139_27, tq_139_28, tq_139_34, tq_139_35, tq_139_36, tq_139_37, tw_va_s, tw_va_n, tw_K_s, tw_K_n, and_true, true_and, and_false, false_and, true_or, or_true, not_true_eq_false, not_false_eq_true, ↓reduceIte, Nat.reduceEqDiff, tw_L0, tw_q_in, tw_st_ap, h1, tw_inT (show M < 2 ^ 31 by omega), tw_b0]
  rcases tw_ixc x (T := M) (by omega) with ⟨c1, c2⟩ | ⟨c1, c2, c3, c4⟩ | ⟨j, hj, rfl, c1, c2, c3, c4, c5⟩
  · simp only [tw_mg, c2, tw_th]
    simp
  · simp only [tw_mg, c4, tw_th]
    simp
  · obtain ⟨g1, g2, g3⟩ := h3 j hj
    have hv : vp_in (nI j) 400 := vp_in_nI (by omega) (by omega)
    simp only [tw_mg, c4, c5, tw_th, tk_157, tj_157, tk_158, tj_158, tk_159, tj_159, tw_va_s, tw_va_n, tw_K_s, tw_K_n, and_true, true_and, and_false, false_and, true_or, or_true, not_true_eq_false, not_false_eq_true, ↓reduceIte, Nat.reduceEqDiff, g1, g2, g3, hv]
    by_cases a0 : a = 0
    · simp [a0]
    · by_cases a1 : a = 1
      · simp [a1]
      · by_cases a2 : a = 2
        · simp [a2]
        · simp [a0, a1, a2]
end tw_runp
