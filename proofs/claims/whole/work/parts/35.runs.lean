/-! what is caught, by runs -/
set_option maxRecDepth 100000 in
theorem tw_xor_and (x y w : Int32) : ((x ^^^ y) &&& w = 0) ↔ (x &&& w = y &&& w) := by
  rw [← Int32.toBitVec_inj, ← Int32.toBitVec_inj]
  simp only [Int32.toBitVec_and, Int32.toBitVec_xor, Int32.toBitVec_zero]
  constructor
  · intro h
    apply BitVec.eq_of_getLsbD_eq
    intro i hi
    have := congrArg (fun b => b.getLsbD i) h
    simp only [BitVec.getLsbD_and, BitVec.getLsbD_xor, BitVec.getLsbD_zero] at this ⊢
    revert this
    cases x.toBitVec.getLsbD i <;> cases y.toBitVec.getLsbD i <;> cases w.toBitVec.getLsbD i <;> simp
  · intro h
    apply BitVec.eq_of_getLsbD_eq
    intro i hi
    have := congrArg (fun b => b.getLsbD i) h
    simp only [BitVec.getLsbD_and, BitVec.getLsbD_xor, BitVec.getLsbD_zero] at this ⊢
    revert this
    cases x.toBitVec.getLsbD i <;> cases y.toBitVec.getLsbD i <;> cases w.toBitVec.getLsbD i <;> simp
/-- 1 where a run of what is caught begins, by the wires w -/
def tw_sf (ca : Nat → Int32) (w : Int32) (k : Nat) : Int32 := if k = 0 ∨ ¬ (ca k &&& w = ca (k - 1) &&& w) then 1 else 0
set_option maxRecDepth 100000 in
theorem tw_sf_0 (ca : Nat → Int32) (w : Int32) : tw_sf ca w 0 = 1 := by simp [tw_sf]
/-- 16 wires -/
def tw_16 (x : Int32) : Prop := ∃ m, m < 65536 ∧ x = nI m
set_option maxRecDepth 100000 in
theorem tw_16_and {x : Int32} (h : tw_16 x) : x &&& 65535 = x := by
  obtain ⟨m, hm, rfl⟩ := h
  show nI m &&& nI 65535 = nI m
  rw [nx_and, show (65535 : Nat) = 2 ^ 16 - 1 from rfl, Nat.and_two_pow_sub_one_eq_mod, Nat.mod_eq_of_lt hm]
/-- the next place from k on, f at most, at which f isn't 0 -/
def tw_nx (sf : Nat → Int32) : Nat → Nat → Nat
  | 0, k => k
  | f + 1, k => if sf k = 0 then tw_nx sf f (k + 1) else k
section tw_runs
variable {sc : Nat × (Nat → Int32)} {d t s i : Nat} {mi : tw_I} {mr : tw_Q} {g : tw_G} {Q : Option Value → tw_G → tw_I → tw_Q → Prop} {T C M : Nat} {sm hd ca mk mv mt : Nat → Int32}
set_option maxRecDepth 100000 in
theorem tw_p_csam (hC : tw_Cc mi C ca) (x : Int32) : tw_E sc d 103 0 [some (.ref 131), some (.int x)] [] tw_g0 mi (tw_r0 t s i) Q = Q (some (.int (tw_get C x ca (-9)))) tw_g0 mi (tw_r0 t s i) := by
  obtain ⟨hT, h1, h3⟩ := hC
  rcases tw_ixc x (T := C) (by omega) with ⟨c1, c2⟩ | ⟨c1, c2, c3, c4⟩ | ⟨j, hj, rfl, c1, c2, c3, c4, c5⟩
  · simp only [tz_103_0, tz_103_1, tz_103_4, tz_103_5, tz_103_6, tz_103_9, tz_103_12, tz_103_13, tz_103_16, tz_103_17, tz_103_18, tz_103_21, tz_103_23, tk_131, tq_131_0, tk_132, tj_132, tw_va_s, tw_va_n, tw_K_s, tw_K_n, and_true, true_and, and_false, false_and, true_or, or_true, not_true_eq_false, not_false_eq_true, ↓reduceIte, Nat.reduceEqDiff, h1, tw_get, c1, c2]
  · simp only [tz_103_0, tz_103_1, tz_103_4, tz_103_5, tz_103_6, tz_103_9, tz_103_12, tz_103_13, tz_103_16, tz_103_17, tz_103_18, tz_103_21, tz_103_23, tk_131, tq_131_0, tk_132, tj_132, tw_va_s, tw_va_n, tw_K_s, tw_K_n, and_true, true_and, and_false, false_and, true_or, or_true, not_true_eq_false, not_false_eq_true, ↓reduceIte, Nat.reduceEqDiff, h1, tw_get, c1, c2, c3]
  · simp only [tz_103_0, tz_103_1, tz_103_4, tz_103_5, tz_103_6, tz_103_9, tz_103_12, tz_103_13, tz_103_16, tz_103_17, tz_103_18, tz_103_21, tz_103_23, tk_131, tq_131_0, tk_132, tj_132, tw_va_s, tw_va_n, tw_K_s, tw_K_n, and_true, true_and, and_false, false_and, true_or, or_true, not_true_eq_false, not_false_eq_true, ↓reduceIte, Nat.reduceEqDiff, h1, tw_get, c1, c2, c3, c4, c5, h3 j hj, vp_in_nI (show j < 1001 by omega) (by omega)]
set_option maxRecDepth 100000 in
theorem tw_get_in {T j : Nat} (hT : T < 2 ^ 31) (hj : j < T) (f : Nat → Int32) (e : Int32) : tw_get T (nI j) f e = f j := by
  unfold tw_get
  rw [if_pos ⟨nI_pos' (by omega), nI_lt hj hT⟩, nI_clamp (by omega)]
set_option maxRecDepth 100000 in
theorem tw_p_caught (hC : tw_Cc mi C ca) (x : Int32) : tw_E sc (d + 1) 14 0 [some (.ref 0), some (.int x)] [] tw_g0 mi (tw_r0 t s i) Q = Q (some (.int (tw_get C x ca (-9)))) tw_g0 mi (tw_r0 t s i) := by
  simp only [tz_14_0, tz_14_1, tz_14_4, tz_14_5, tz_14_8, tk_0, tq_0_0, tq_0_1, tq_0_2, tq_0_3, tq_0_4, tq_0_5, tq_0_6, tq_t, tq_s, tk_131, tq_131_0, tw_va_s, tw_va_n, tw_K_s, tw_K_n, and_true, true_and, and_false, false_and, true_or, or_true, not_true_eq_false, not_false_eq_true, ↓reduceIte, Nat.reduceEqDiff, tw_p_csam hC]
set_option maxRecDepth 100000 in
theorem tw_q_caught (hC : tw_Mc mi C ca) (x : Int32) : tw_E sc (d + 1) 159 0 [some (.ref 139), some (.int x)] [] tw_g0 mi (tw_r0 t s i) Q = Q (some (.int (tw_get C x ca (-9)))) tw_g0 (tw_th mi) (tw_r0 t s i) := by
  obtain ⟨hT, h1, h3⟩ := hC
  simp only [tz_159_0, tz_159_1, tz_159_2, tz_159_5, tz_159_6, tz_159_7, tz_159_8, tz_159_9, tz_159_12, tz_159_13, tz_159_14, tz_159_15, tz_159_18, tz_159_21, tz_159_22, tz_159_25, tz_159_26, tz_159_27, tz_159_30, tz_159_32, tk_139, tq_139_1, tq_139_6, tq_139_7, tq_139_8, tq_139_9, tq_139_10, tq_139_12, tq_139_13, tq_139_14, tq_139_15, tq_139_16, tq_139_17, tq_139_18, tq_139_19, tq_139_21, tq_139_22, tq_139_24, tq_139_26, tq_139_27, tq_139_28, tq_139_34, tq_139_35, tq_139_36, tq_139_37, tw_va_s, tw_va_n, tw_K_s, tw_K_n, and_true, true_and, and_false, false_and, true_or, or_true, not_true_eq_false, not_false_eq_true, ↓reduceIte, Nat.reduceEqDiff, tw_L0, tw_q_in, tw_st_ap, h1, tw_inT (show C < 2 ^ 31 by omega), tw_b0]
  rcases tw_ixc x (T := C) (by omega) with ⟨c1, c2⟩ | ⟨c1, c2, c3, c4⟩ | ⟨j, hj, rfl, c1, c2, c3, c4, c5⟩
  · simp only [tw_get, c2, tw_th]
    simp
  · simp only [tw_get, c4, tw_th]
    simp
  · simp only [tw_get, c4, c5, tw_th, tk_156, tj_156, h3 j hj, vp_in_nI (show j < 1001 by omega) (by omega)]
    simp
set_option maxRecDepth 100000 in
theorem tw_p_starts (hC : tw_Cc mi C ca) (w : Int32) {k : Nat} (hk : k < C) : tw_E sc (d + 1) 107 0 [some (.ref 131), some (.int (nI k)), some (.int w)] [] tw_g0 mi (tw_r0 t s i) Q = Q (some (.int (tw_sf ca w k))) tw_g0 mi (tw_r0 t s i) := by
  have hT := hC.1
  cases k with
  | zero =>
    simp only [tz_107_0, tz_107_1, tz_107_4, tz_107_5, tz_107_6, tz_107_9, tz_107_10, tz_107_11, tz_107_12, tz_107_13, tz_107_16, tz_107_17, tz_107_18, tz_107_19, tz_107_22, tz_107_23, tz_107_26, tz_107_27, nI_0, tw_sf_0]
    simp
  | succ k =>
    have h0 : ¬ nI (k + 1) = 0 := nI_ne0 (by omega) (by omega)
    simp only [tz_107_0, tz_107_1, tz_107_4, tz_107_5, tz_107_6, tz_107_9, tz_107_10, tz_107_11, tz_107_12, tz_107_13, tz_107_16, tz_107_17, tz_107_18, tz_107_19, tz_107_22, tz_107_23, tz_107_26, tz_107_27, tk_131, tq_131_0, tw_va_s, tw_va_n, tw_K_s, tw_K_n, and_true, true_and, and_false, false_and, true_or, or_true, not_true_eq_false, not_false_eq_true, ↓reduceIte, Nat.reduceEqDiff, tw_p_csam hC, h0, nI_pred, tw_get_in (show C < 2 ^ 31 by omega) hk, tw_get_in (show C < 2 ^ 31 by omega) (show k < C by omega), tw_xor_and, tw_sf]
    by_cases h : ca (k + 1) &&& w = ca k &&& w <;> simp [h]
set_option maxRecDepth 100000 in
theorem tw_p_cntl2 (hC : tw_Cc mi C ca) (w : Int32) : ∀ f k, C = k + f → tw_E sc (d + 2) 104 4 [some (.ref 131), some (.int w), some (.int (nI (tw_cn (tw_sf ca w) k))), some (.int (nI k))] [] tw_g0 mi (tw_r0 t s i) Q = Q (some (.int (nI (tw_cn (tw_sf ca w) C)))) tw_g0 mi (tw_r0 t s i) := by
  have hT := hC.1
  intro f
  induction f with
  | zero =>
    intro k hk
    obtain rfl : C = k := hk
    rw [tz_104_4]
    simp only [tz_104_0, tz_104_1, tz_104_2, tz_104_3, tz_104_5, tz_104_6, tz_104_9, tz_104_12, tz_104_13, tz_104_14, tz_104_15, tz_104_18, tz_104_21, tz_104_24, tz_104_27, tz_104_30, tz_104_31, tk_131, tq_131_0, tw_va_s, tw_va_n, tw_K_s, tw_K_n, and_true, true_and, and_false, false_and, true_or, or_true, not_true_eq_false, not_false_eq_true, ↓reduceIte, Nat.reduceEqDiff, hC.2.1]
    rw [tw_le_t (by omega) (by omega)]
  | succ f ih =>
    intro k hk
    rw [tz_104_4]
    simp only [tz_104_0, tz_104_1, tz_104_2, tz_104_3, tz_104_5, tz_104_6, tz_104_9, tz_104_12, tz_104_13, tz_104_14, tz_104_15, tz_104_18, tz_104_21, tz_104_24, tz_104_27, tz_104_30, tz_104_31, tk_131, tq_131_0, tw_va_s, tw_va_n, tw_K_s, tw_K_n, and_true, true_and, and_false, false_and, true_or, or_true, not_true_eq_false, not_false_eq_true, ↓reduceIte, Nat.reduceEqDiff, hC.2.1, tw_p_starts hC w (show k < C by omega), nI_1]
    rw [tw_le_f (by omega) (by omega)]
    have := ih (k + 1) (by omega)
    by_cases h : tw_sf ca w k = 0
    · rw [show tw_cn (tw_sf ca w) (k + 1) = tw_cn (tw_sf ca w) k by simp [tw_cn, h]] at this
      rw [if_pos h, this]
    · rw [show tw_cn (tw_sf ca w) (k + 1) = tw_cn (tw_sf ca w) k + 1 by simp [tw_cn, h]] at this
      rw [if_neg h, this]
set_option maxRecDepth 100000 in
theorem tw_p_count (hC : tw_Cc mi C ca) (w : Int32) : tw_E sc (d + 2) 104 0 [some (.ref 131), some (.int w), none, none] [] tw_g0 mi (tw_r0 t s i) Q = Q (some (.int (nI (tw_cn (tw_sf ca w) C)))) tw_g0 mi (tw_r0 t s i) := by
  simp only [tz_104_0, tz_104_1, tz_104_2, tz_104_3, tz_104_5, tz_104_6, tz_104_9, tz_104_12, tz_104_13, tz_104_14, tz_104_15, tz_104_18, tz_104_21, tz_104_24, tz_104_27, tz_104_30, tz_104_31]
  exact tw_p_cntl2 hC w C 0 (by omega)
set_option maxRecDepth 100000 in
theorem tw_p_runs (hC : tw_Cc mi C ca) : tw_E sc (d + 3) 15 0 [some (.ref 0)] [] tw_g0 mi (tw_r0 t s i) Q = Q (some (.int (nI (tw_cn (tw_sf ca 65535) C)))) tw_g0 mi (tw_r0 t s i) := by
  simp only [tz_15_0, tz_15_1, tz_15_4, tz_15_6, tz_15_9, tk_0, tq_0_0, tq_0_1, tq_0_2, tq_0_3, tq_0_4, tq_0_5, tq_0_6, tq_t, tq_s, tk_131, tq_131_0, tw_va_s, tw_va_n, tw_K_s, tw_K_n, and_true, true_and, and_false, false_and, true_or, or_true, not_true_eq_false, not_false_eq_true, ↓reduceIte, Nat.reduceEqDiff, tw_p_count hC]
set_option maxRecDepth 100000 in
theorem tw_p_squ (hC : tw_Cc mi C ca) (w : Int32) : tw_E sc (d + 3) 17 0 [some (.ref 0), some (.int w)] [] tw_g0 mi (tw_r0 t s i) Q = Q (some (.int (if 0 ≤ w ∧ w ≤ 65535 then nI (tw_cn (tw_sf ca w) C) else -2))) tw_g0 mi (tw_r0 t s i) := by
  simp only [tz_17_0, tz_17_1, tz_17_4, tz_17_5, tz_17_7, tz_17_10, tz_17_12, tz_17_13, tz_17_14, tz_17_17, tz_17_18, tz_17_21, tk_0, tq_0_0, tq_0_1, tq_0_2, tq_0_3, tq_0_4, tq_0_5, tq_0_6, tq_t, tq_s, tk_131, tq_131_0, tw_va_s, tw_va_n, tw_K_s, tw_K_n, and_true, true_and, and_false, false_and, true_or, or_true, not_true_eq_false, not_false_eq_true, ↓reduceIte, Nat.reduceEqDiff, tw_p_count hC]
  by_cases h1 : w < 0
  · rw [if_pos h1, if_neg (fun q => absurd h1 (Int32.not_lt.mpr q.1))]
  · rw [if_neg h1]
    by_cases h2 : w ≤ 65535
    · rw [if_pos h2, if_pos ⟨Int32.not_lt.mp h1, h2⟩]
    · rw [if_neg h2, if_neg (fun q => h2 q.2)]
set_option maxRecDepth 100000 in
theorem tw_q_byl (hC : tw_Mc mi C ca) (w : Int32) : ∀ f k, C = k + f → tw_E sc d 160 4 [some (.ref 139), some (.int w), some (.int (nI (tw_cn (tw_sf ca w) k))), some (.int (nI k))] [] tw_g0 mi (tw_r0 t s i) Q = Q (some (.int (nI (tw_cn (tw_sf ca w) C)))) tw_g0 mi (tw_r0 t s i) := by
  obtain ⟨hT, h1, h3⟩ := hC
  intro f
  induction f with
  | zero =>
    intro k hk
    obtain rfl : C = k := hk
    rw [tz_160_4]
    simp only [tz_160_0, tz_160_1, tz_160_2, tz_160_3, tz_160_5, tz_160_6, tz_160_9, tz_160_12, tz_160_13, tz_160_14, tz_160_17, tz_160_18, tz_160_21, tz_160_22, tz_160_23, tz_160_24, tz_160_25, tz_160_26, tz_160_29, tz_160_30, tz_160_31, tz_160_32, tz_160_33, tz_160_34, tz_160_35, tz_160_38, tz_160_39, tz_160_42, tz_160_43, tz_160_44, tz_160_45, tz_160_48, tz_160_51, tz_160_52, tk_139, tq_139_1, tq_139_6, tq_139_7, tq_139_8, tq_139_9, tq_139_10, tq_139_12, tq_139_13, tq_139_14, tq_139_15, tq_139_16, tq_139_17, tq_139_18, tq_139_19, tq_139_21, tq_139_22, tq_139_24, tq_139_26, tq_139_27, tq_139_28, tq_139_34, tq_139_35, tq_139_36, tq_139_37, tw_va_s, tw_va_n, tw_K_s, tw_K_n, and_true, true_and, and_false, false_and, true_or, or_true, not_true_eq_false, not_false_eq_true, ↓reduceIte, Nat.reduceEqDiff, h1]
    rw [tw_le_t (by omega) (by omega)]
  | succ f ih =>
    intro k hk
    have := ih (k + 1) (by omega)
    rw [tz_160_4]
    cases k with
    | zero =>
      simp only [tz_160_0, tz_160_1, tz_160_2, tz_160_3, tz_160_5, tz_160_6, tz_160_9, tz_160_12, tz_160_13, tz_160_14, tz_160_17, tz_160_18, tz_160_21, tz_160_22, tz_160_23, tz_160_24, tz_160_25, tz_160_26, tz_160_29, tz_160_30, tz_160_31, tz_160_32, tz_160_33, tz_160_34, tz_160_35, tz_160_38, tz_160_39, tz_160_42, tz_160_43, tz_160_44, tz_160_45, tz_160_48, tz_160_51, tz_160_52, tk_139, tq_139_1, tq_139_6, tq_139_7, tq_139_8, tq_139_9, tq_139_10, tq_139_12, tq_139_13, tq_139_14, tq_139_15, tq_139_16, tq_139_17, tq_139_18, tq_139_19, tq_139_21, tq_139_22, tq_139_24, tq_139_26, tq_139_27, tq_139_28, tq_139_34, tq_139_35, tq_139_36, tq_139_37, tw_va_s, tw_va_n, tw_K_s, tw_K_n, and_true, true_and, and_false, false_and, true_or, or_true, not_true_eq_false, not_false_eq_true, ↓reduceIte, Nat.reduceEqDiff, h1, nI_1, nI_0]
      rw [if_neg (by rw [show (0 : Int32) = nI 0 from rfl]; exact nI_ge (by omega) (by omega))]
      rw [show tw_cn (tw_sf ca w) (0 + 1) = 1 by simp [tw_cn, tw_sf_0]] at this
      exact this
    | succ k =>
      have h0 : ¬ nI (k + 1) = 0 := nI_ne0 (by omega) (by omega)
      simp only [tz_160_0, tz_160_1, tz_160_2, tz_160_3, tz_160_5, tz_160_6, tz_160_9, tz_160_12, tz_160_13, tz_160_14, tz_160_17, tz_160_18, tz_160_21, tz_160_22, tz_160_23, tz_160_24, tz_160_25, tz_160_26, tz_160_29, tz_160_30, tz_160_31, tz_160_32, tz_160_33, tz_160_34, tz_160_35, tz_160_38, tz_160_39, tz_160_42, tz_160_43, tz_160_44, tz_160_45, tz_160_48, tz_160_51, tz_160_52, tk_139, tq_139_1, tq_139_6, tq_139_7, tq_139_8, tq_139_9, tq_139_10, tq_139_12, tq_139_13, tq_139_14, tq_139_15, tq_139_16, tq_139_17, tq_139_18, tq_139_19, tq_139_21, tq_139_22, tq_139_24, tq_139_26, tq_139_27, tq_139_28, tq_139_34, tq_139_35, tq_139_36, tq_139_37, tk_156, tj_156, tw_va_s, tw_va_n, tw_K_s, tw_K_n, and_true, true_and, and_false, false_and, true_or, or_true, not_true_eq_false, not_false_eq_true, ↓reduceIte, Nat.reduceEqDiff, h1, h0, nI_1, nI_pred, nI_clamp (show k + 1 < 2 ^ 31 by omega), nI_clamp (show k < 2 ^ 31 by omega), h3 (k + 1) (by omega), h3 k (by omega), vp_in_nI (show k + 1 < 1001 by omega) (by omega), vp_in_nI (show k < 1001 by omega) (by omega)]
      rw [tw_le_f (by omega) (by omega)]
      by_cases h : ca (k + 1) &&& w = ca k &&& w
      · have hs : tw_sf ca w (k + 1) = 0 := by simp [tw_sf, h]
        rw [show tw_cn (tw_sf ca w) (k + 1 + 1) = tw_cn (tw_sf ca w) (k + 1) by simp [tw_cn, hs]] at this
        rw [if_pos h, Int32.add_zero, this]
      · have hs : tw_sf ca w (k + 1) = 1 := by simp [tw_sf, h]
        rw [show tw_cn (tw_sf ca w) (k + 1 + 1) = tw_cn (tw_sf ca w) (k + 1) + 1 by simp [tw_cn, hs]] at this
        rw [if_neg h, this]
set_option maxRecDepth 100000 in
theorem tw_q_by (hC : tw_Mc mi C ca) (w : Int32) : tw_E sc d 160 0 [some (.ref 139), some (.int w), none, none] [] tw_g0 mi (tw_r0 t s i) Q = Q (some (.int (nI (tw_cn (tw_sf ca w) C)))) tw_g0 mi (tw_r0 t s i) := by
  simp only [tz_160_0, tz_160_1, tz_160_2, tz_160_3, tz_160_5, tz_160_6, tz_160_9, tz_160_12, tz_160_13, tz_160_14, tz_160_17, tz_160_18, tz_160_21, tz_160_22, tz_160_23, tz_160_24, tz_160_25, tz_160_26, tz_160_29, tz_160_30, tz_160_31, tz_160_32, tz_160_33, tz_160_34, tz_160_35, tz_160_38, tz_160_39, tz_160_42, tz_160_43, tz_160_44, tz_160_45, tz_160_48, tz_160_51, tz_160_52]
  exact tw_q_byl hC w C 0 (by omega)
set_option maxRecDepth 100000 in
theorem tw_Mc_th (hC : tw_Mc mi C ca) : tw_Mc (tw_th mi) C ca := ⟨hC.1, by rw [tw_th_x mi (by decide)]; exact hC.2.1, fun j hj => by rw [tw_th_a mi (by decide)]; exact hC.2.2 j hj⟩
set_option maxRecDepth 100000 in
theorem tw_q_runs (hC : tw_Mc mi C ca) : tw_E sc (d + 1) 161 0 [some (.ref 139)] [] tw_g0 mi (tw_r0 t s i) Q = Q (some (.int (nI (tw_cn (tw_sf ca 65535) C)))) tw_g0 (tw_th mi) (tw_r0 t s i) := by
  simp only [tz_161_0, tz_161_1, tz_161_2, tz_161_5, tz_161_6, tz_161_8, tz_161_11, tk_139, tq_139_1, tq_139_6, tq_139_7, tq_139_8, tq_139_9, tq_139_10, tq_139_12, tq_139_13, tq_139_14, tq_139_15, tq_139_16, tq_139_17, tq_139_18, tq_139_19, tq_139_21, tq_139_22, tq_139_24, tq_139_26, tq_139_27, tq_139_28, tq_139_34, tq_139_35, tq_139_36, tq_139_37, tw_va_s, tw_va_n, tw_K_s, tw_K_n, and_true, true_and, and_false, false_and, true_or, or_true, not_true_eq_false, not_false_eq_true, ↓reduceIte, Nat.reduceEqDiff]
  rw [show tw_st mi 139 (tw_st (mi 139) 0 0) = tw_th mi from rfl, tw_q_by (tw_Mc_th hC)]
  simp only [tz_161_0, tz_161_1, tz_161_2, tz_161_5, tz_161_6, tz_161_8, tz_161_11, tw_va_s, tw_va_n, tw_K_s, tw_K_n, and_true, true_and, and_false, false_and, true_or, or_true, not_true_eq_false, not_false_eq_true, ↓reduceIte, Nat.reduceEqDiff]
set_option maxRecDepth 100000 in
theorem tw_q_squ (hC : tw_Mc mi C ca) (w : Int32) : tw_E sc (d + 1) 163 0 [some (.ref 139), some (.int w)] [] tw_g0 mi (tw_r0 t s i) Q = Q (some (.int (if 0 ≤ w ∧ w ≤ 65535 then nI (tw_cn (tw_sf ca w) C) else -2))) tw_g0 (tw_th mi) (tw_r0 t s i) := by
  simp only [tz_163_0, tz_163_1, tz_163_2, tz_163_5, tz_163_6, tz_163_7, tz_163_8, tz_163_11, tz_163_14, tz_163_17, tz_163_18, tz_163_19, tz_163_22, tz_163_25, tz_163_27, tk_139, tq_139_1, tq_139_6, tq_139_7, tq_139_8, tq_139_9, tq_139_10, tq_139_12, tq_139_13, tq_139_14, tq_139_15, tq_139_16, tq_139_17, tq_139_18, tq_139_19, tq_139_21, tq_139_22, tq_139_24, tq_139_26, tq_139_27, tq_139_28, tq_139_34, tq_139_35, tq_139_36, tq_139_37, tw_va_s, tw_va_n, tw_K_s, tw_K_n, and_true, true_and, and_false, false_and, true_or, or_true, not_true_eq_false, not_false_eq_true, ↓reduceIte, Nat.reduceEqDiff, tw_L0, tw_L65535, tw_q_in, tw_b0]
  rw [show tw_st mi 139 (tw_st (mi 139) 0 0) = tw_th mi from rfl]
  simp only [tw_q_by (tw_Mc_th hC), tz_163_0, tz_163_1, tz_163_2, tz_163_5, tz_163_6, tz_163_7, tz_163_8, tz_163_11, tz_163_14, tz_163_17, tz_163_18, tz_163_19, tz_163_22, tz_163_25, tz_163_27, tw_va_s, tw_va_n, tw_K_s, tw_K_n, and_true, true_and, and_false, false_and, true_or, or_true, not_true_eq_false, not_false_eq_true, ↓reduceIte, Nat.reduceEqDiff]
  by_cases h : 0 ≤ w ∧ w ≤ 65535
  · rw [if_neg (fun q => q h), if_pos h]
  · rw [if_pos h, if_neg h]
end tw_runs
