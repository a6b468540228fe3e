/-! asking: samples, what is caught, marks -/
set_option maxRecDepth 100000 in
theorem tw_ixc (x : Int32) {T : Nat} (hT : T < 2 ^ 31) : (x < 0 ∧ ¬ (0 ≤ x ∧ x < nI T)) ∨ (¬ x < 0 ∧ nI T ≤ x ∧ ¬ x < nI T ∧ ¬ (0 ≤ x ∧ x < nI T)) ∨ ∃ j, j < T ∧ x = nI j ∧ ¬ nI j < 0 ∧ ¬ nI T ≤ nI j ∧ nI j < nI T ∧ (0 ≤ nI j ∧ nI j < nI T) ∧ (nI j).toNatClampNeg = j := by
  rcases pk_ix x hT with h | h | ⟨j, hj, rfl⟩
  · exact Or.inl ⟨h, fun q => absurd h (Int32.not_lt.mpr q.1)⟩
  · have h0 : ¬ x < 0 := Int32.not_lt.mpr (Int32.le_trans (nI_pos' hT) h)
    exact Or.inr (Or.inl ⟨h0, h, Int32.not_lt.mpr h, fun q => absurd q.2 (Int32.not_lt.mpr h)⟩)
  · exact Or.inr (Or.inr ⟨j, hj, rfl, nI_pos (by omega), nI_ge hj hT, nI_lt hj hT, ⟨nI_pos' (by omega), nI_lt hj hT⟩, nI_clamp (by omega)⟩)
set_option maxRecDepth 100000 in
theorem tw_inT {T : Nat} (hT : T < 2 ^ 31) (x : Int32) : (0 ≤ x ∧ x ≤ nI T - 1) = (0 ≤ x ∧ x < nI T) := by
  refine propext (and_congr_right fun h0 => ?_)
  cases T with
  | zero =>
    have e : nI 0 - 1 = (-1 : Int32) := by decide
    rw [e]
    constructor
    · intro h
      have := Int32.le_trans h0 h
      exact absurd this (by decide)
    · intro h
      have h2 : ¬ x < 0 := Int32.not_lt.mpr h0
      exact absurd h h2
  | succ T =>
    rw [nI_pred, Int32.le_iff_toInt_le, Int32.lt_iff_toInt_lt, nI_toInt (by omega), nI_toInt hT]
    omega
set_option maxRecDepth 100000 in
theorem tw_b0 (p : Prop) [Decidable p] : ((if p then (1 : Int32) else 0) = 0) = ¬ p := by by_cases h : p <;> simp [h]
/-- place x of a row of T: what it holds, else e -/
def tw_get (T : Nat) (x : Int32) (f : Nat → Int32) (e : Int32) : Int32 := if 0 ≤ x ∧ x < nI T then f x.toNatClampNeg else e
/-- how many of the first n are not 0 -/
def tw_cn (f : Nat → Int32) : Nat → Nat
  | 0 => 0
  | n + 1 => tw_cn f n + if f n = 0 then 0 else 1
set_option maxRecDepth 100000 in
theorem tw_cn_le (f : Nat → Int32) : ∀ n, tw_cn f n ≤ n
  | 0 => Nat.le_refl _
  | n + 1 => by
    have := tw_cn_le f n
    simp only [tw_cn]
    split <;> omega
set_option maxRecDepth 100000 in
theorem tw_cn_mono (f : Nat → Int32) {a b : Nat} (h : a ≤ b) : tw_cn f a ≤ tw_cn f b := by
  induction h with
  | refl => exact Nat.le_refl _
  | step _ ih => simp only [tw_cn]; omega
/-- the class's samples: T of them, sm; held hd -/
def tw_Ch (mi : tw_I) (T : Nat) (sm hd : Nat → Int32) : Prop := T ≤ 4000 ∧ mi 128 2 = nI T ∧ mi 128 3 = nI (tw_cn hd T) ∧ (∀ j, j < T → mi 129 j = sm j) ∧ ∀ j, j < T → mi 130 j = hd j
/-- the reference's -/
def tw_Mh (mi : tw_I) (T : Nat) (sm hd : Nat → Int32) : Prop := T ≤ 4000 ∧ mi 139 20 = nI T ∧ (∀ j, j < T → mi 154 j = sm j) ∧ ∀ j, j < T → mi 155 j = hd j
/-- what is caught: C samples ca -/
def tw_Cc (mi : tw_I) (C : Nat) (ca : Nat → Int32) : Prop := C ≤ 1001 ∧ mi 131 1 = nI C ∧ ∀ j, j < C → mi 132 j = ca j
def tw_Mc (mi : tw_I) (C : Nat) (ca : Nat → Int32) : Prop := C ≤ 1001 ∧ mi 139 23 = nI C ∧ ∀ j, j < C → mi 156 j = ca j
/-- marks: M of them, of kinds mk, with values mv, at ticks mt -/
def tw_Cm (mi : tw_I) (M : Nat) (mk mv mt : Nat → Int32) : Prop := M ≤ 400 ∧ mi 133 3 = nI M ∧ ∀ j, j < M → mi 134 j = mk j ∧ mi 135 j = mv j ∧ mi 136 j = mt j
def tw_Mm (mi : tw_I) (M : Nat) (mk mv mt : Nat → Int32) : Prop := M ≤ 400 ∧ mi 139 25 = nI M ∧ ∀ j, j < M → mi 157 j = mk j ∧ mi 158 j = mv j ∧ mi 159 j = mt j
/-- the reference's calls begin so -/
def tw_th (mi : tw_I) : tw_I := tw_st mi 139 (tw_st (mi 139) 0 0)
set_option maxRecDepth 100000 in
theorem tw_th_a (mi : tw_I) {a : Nat} (h : a ≠ 139) : tw_th mi a = mi a := by simp only [tw_th, tw_st_ap, if_neg h]
set_option maxRecDepth 100000 in
theorem tw_th_x (mi : tw_I) {x : Nat} (h : x ≠ 0) : tw_th mi 139 x = mi 139 x := by simp only [tw_th, tw_st_ap, ↓reduceIte, if_neg h]
section tw_ask
variable {sc : Nat × (Nat → Int32)} {d t s i : Nat} {mi : tw_I} {mr : tw_Q} {g : tw_G} {Q : Option Value → tw_G → tw_I → tw_Q → Prop} {T C M : Nat} {sm hd ca mk mv mt : Nat → Int32}
set_option maxRecDepth 100000 in
theorem tw_q_in {x lo hi : Int32} : tw_E sc d 126 0 [some (.long x.toInt64), none, some (.long lo.toInt64), none, some (.long hi.toInt64), none] [] g mi mr Q = Q (some (.int (if lo ≤ x ∧ x ≤ hi then 1 else 0))) g mi mr := by
  simp only [tz_126_0, tz_126_1, tz_126_2, tz_126_3, tz_126_6, tz_126_7, tz_126_9, tz_126_10, tz_126_13, tz_126_14, tz_126_17, tz_126_18, lg_cmp_lt, lg_cmp_gt, fa_wide_lt]
  by_cases h1 : x < lo
  · rw [if_pos h1, if_neg (fun q => absurd h1 (Int32.not_lt.mpr q.1))]
    simp
  · rw [if_neg h1]
    by_cases h2 : hi < x
    · rw [if_pos h2, if_neg (fun q => absurd h2 (Int32.not_lt.mpr q.2))]
      simp
    · rw [if_neg h2, if_pos ⟨Int32.not_lt.mp h1, Int32.not_lt.mp h2⟩]
      simp
set_option maxRecDepth 100000 in
theorem tw_L0 : (0 : Int64) = (0 : Int32).toInt64 := by decide +kernel
set_option maxRecDepth 100000 in
theorem tw_L1 : (1 : Int64) = (1 : Int32).toInt64 := by decide +kernel
set_option maxRecDepth 100000 in
theorem tw_L4 : (4 : Int64) = (4 : Int32).toInt64 := by decide +kernel
set_option maxRecDepth 100000 in
theorem tw_L8 : (8 : Int64) = (8 : Int32).toInt64 := by decide +kernel
set_option maxRecDepth 100000 in
theorem tw_L15 : (15 : Int64) = (15 : Int32).toInt64 := by decide +kernel
set_option maxRecDepth 100000 in
theorem tw_L20 : (20 : Int64) = (20 : Int32).toInt64 := by decide +kernel
set_option maxRecDepth 100000 in
theorem tw_L48 : (48 : Int64) = (48 : Int32).toInt64 := by decide +kernel
set_option maxRecDepth 100000 in
theorem tw_L57 : (57 : Int64) = (57 : Int32).toInt64 := by decide +kernel
set_option maxRecDepth 100000 in
theorem tw_L97 : (97 : Int64) = (97 : Int32).toInt64 := by decide +kernel
set_option maxRecDepth 100000 in
theorem tw_L112 : (112 : Int64) = (112 : Int32).toInt64 := by decide +kernel
set_option maxRecDepth 100000 in
theorem tw_L255 : (255 : Int64) = (255 : Int32).toInt64 := by decide +kernel
set_option maxRecDepth 100000 in
theorem tw_L500 : (500 : Int64) = (500 : Int32).toInt64 := by decide +kernel
set_option maxRecDepth 100000 in
theorem tw_L1000 : (1000 : Int64) = (1000 : Int32).toInt64 := by decide +kernel
set_option maxRecDepth 100000 in
theorem tw_L65535 : (65535 : Int64) = (65535 : Int32).toInt64 := by decide +kernel
set_option maxRecDepth 100000 in
theorem tw_p_at (hC : tw_Ch mi T sm hd) (x : Int32) : tw_E sc (d + 3) 12 0 [some (.ref 0), some (.int x)] [] tw_g0 mi (tw_r0 t s i) Q = Q (some (.int (tw_get T x sm (-1)))) tw_g0 mi (tw_r0 t s i) := by
  obtain ⟨hT, h1, h2, h3, h4⟩ := hC
  rcases tw_ixc x (T := T) (by omega) with ⟨c1, c2⟩ | ⟨c1, c2, c3, c4⟩ | ⟨j, hj, rfl, c1, c2, c3, c4, c5⟩
  · simp only [tz_12_0, tz_12_1, tz_12_4, tz_12_5, tz_12_8, tz_95_0, tz_95_1, tz_95_2, tz_95_5, tz_95_8, tz_95_9, tz_95_12, tz_95_13, tz_95_14, tz_95_17, tz_95_18, tz_94_0, tz_94_1, tz_94_4, tz_94_5, tz_94_6, tz_94_9, tz_94_12, tz_94_13, tz_94_16, tz_94_17, tk_0, tq_0_0, tq_0_1, tq_0_2, tq_0_3, tq_0_4, tq_0_5, tq_0_6, tq_t, tq_s, tk_128, tq_128_0, tq_128_1, tk_129, tj_129, tw_va_s, tw_va_n, tw_K_s, tw_K_n, and_true, true_and, and_false, false_and, true_or, or_true, not_true_eq_false, not_false_eq_true, ↓reduceIte, Nat.reduceEqDiff, h1, tw_get, c1, c2, true_or]
  · simp only [tz_12_0, tz_12_1, tz_12_4, tz_12_5, tz_12_8, tz_95_0, tz_95_1, tz_95_2, tz_95_5, tz_95_8, tz_95_9, tz_95_12, tz_95_13, tz_95_14, tz_95_17, tz_95_18, tz_94_0, tz_94_1, tz_94_4, tz_94_5, tz_94_6, tz_94_9, tz_94_12, tz_94_13, tz_94_16, tz_94_17, tk_0, tq_0_0, tq_0_1, tq_0_2, tq_0_3, tq_0_4, tq_0_5, tq_0_6, tq_t, tq_s, tk_128, tq_128_0, tq_128_1, tk_129, tj_129, tw_va_s, tw_va_n, tw_K_s, tw_K_n, and_true, true_and, and_false, false_and, true_or, or_true, not_true_eq_false, not_false_eq_true, ↓reduceIte, Nat.reduceEqDiff, h1, tw_get, c1, c2, c4, true_or]
  · simp only [tz_12_0, tz_12_1, tz_12_4, tz_12_5, tz_12_8, tz_95_0, tz_95_1, tz_95_2, tz_95_5, tz_95_8, tz_95_9, tz_95_12, tz_95_13, tz_95_14, tz_95_17, tz_95_18, tz_94_0, tz_94_1, tz_94_4, tz_94_5, tz_94_6, tz_94_9, tz_94_12, tz_94_13, tz_94_16, tz_94_17, tk_0, tq_0_0, tq_0_1, tq_0_2, tq_0_3, tq_0_4, tq_0_5, tq_0_6, tq_t, tq_s, tk_128, tq_128_0, tq_128_1, tk_129, tj_129, tw_va_s, tw_va_n, tw_K_s, tw_K_n, and_true, true_and, and_false, false_and, true_or, or_true, not_true_eq_false, not_false_eq_true, ↓reduceIte, Nat.reduceEqDiff, h1, tw_get, c1, c2, c4, c5, h3 j hj, vp_in_nI (show j < 4000 by omega) (by omega), or_true]
    simp
set_option maxRecDepth 100000 in
theorem tw_p_sampleAt (hC : tw_Ch mi T sm hd) {j : Nat} (hj : j < T) : tw_E sc (d + 1) 95 0 [some (.ref 128), some (.int (nI j))] [] tw_g0 mi (tw_r0 t s i) Q = Q (some (.int (sm j))) tw_g0 mi (tw_r0 t s i) := by
  obtain ⟨hT, h1, h2, h3, h4⟩ := hC
  have c1 : ¬ nI j < 0 := nI_pos (by omega)
  have c2 : ¬ nI T ≤ nI j := nI_ge hj (by omega)
  simp only [tz_95_0, tz_95_1, tz_95_2, tz_95_5, tz_95_8, tz_95_9, tz_95_12, tz_95_13, tz_95_14, tz_95_17, tz_95_18, tz_94_0, tz_94_1, tz_94_4, tz_94_5, tz_94_6, tz_94_9, tz_94_12, tz_94_13, tz_94_16, tz_94_17, tk_128, tq_128_0, tq_128_1, tk_129, tj_129, tw_va_s, tw_va_n, tw_K_s, tw_K_n, and_true, true_and, and_false, false_and, true_or, or_true, not_true_eq_false, not_false_eq_true, ↓reduceIte, Nat.reduceEqDiff, h1, c1, c2, nI_clamp (show j < 2 ^ 31 by omega), h3 j hj, vp_in_nI (show j < 4000 by omega) (by omega), or_true]
  simp
set_option maxRecDepth 100000 in
theorem tw_p_held (hC : tw_Ch mi T sm hd) (x : Int32) : tw_E sc (d + 3) 10 0 [some (.ref 0), some (.int x)] [] tw_g0 mi (tw_r0 t s i) Q = Q (some (.int (tw_get T x (fun j => if hd j = 0 then 0 else 1) (-1)))) tw_g0 mi (tw_r0 t s i) := by
  obtain ⟨hT, h1, h2, h3, h4⟩ := hC
  rcases tw_ixc x (T := T) (by omega) with ⟨c1, c2⟩ | ⟨c1, c2, c3, c4⟩ | ⟨j, hj, rfl, c1, c2, c3, c4, c5⟩
  · simp only [tz_10_0, tz_10_1, tz_10_4, tz_10_5, tz_10_8, tz_10_11, tz_10_12, tz_10_13, tz_10_14, tz_10_17, tz_10_18, tz_10_21, tz_10_24, tz_10_25, tz_10_28, tz_10_29, tz_97_0, tz_97_1, tz_97_2, tz_97_5, tz_97_8, tz_97_9, tz_97_12, tz_97_13, tz_97_14, tz_97_17, tz_97_18, tz_97_21, tz_97_22, tz_94_0, tz_94_1, tz_94_4, tz_94_5, tz_94_6, tz_94_9, tz_94_12, tz_94_13, tz_94_16, tz_94_17, tk_0, tq_0_0, tq_0_1, tq_0_2, tq_0_3, tq_0_4, tq_0_5, tq_0_6, tq_t, tq_s, tk_128, tq_128_0, tq_128_1, tk_130, tj_130, tw_va_s, tw_va_n, tw_K_s, tw_K_n, and_true, true_and, and_false, false_and, true_or, or_true, not_true_eq_false, not_false_eq_true, ↓reduceIte, Nat.reduceEqDiff, h1, tw_get, c1, c2, true_or, not_true_eq_false]
  · simp only [tz_10_0, tz_10_1, tz_10_4, tz_10_5, tz_10_8, tz_10_11, tz_10_12, tz_10_13, tz_10_14, tz_10_17, tz_10_18, tz_10_21, tz_10_24, tz_10_25, tz_10_28, tz_10_29, tz_97_0, tz_97_1, tz_97_2, tz_97_5, tz_97_8, tz_97_9, tz_97_12, tz_97_13, tz_97_14, tz_97_17, tz_97_18, tz_97_21, tz_97_22, tz_94_0, tz_94_1, tz_94_4, tz_94_5, tz_94_6, tz_94_9, tz_94_12, tz_94_13, tz_94_16, tz_94_17, tk_0, tq_0_0, tq_0_1, tq_0_2, tq_0_3, tq_0_4, tq_0_5, tq_0_6, tq_t, tq_s, tk_128, tq_128_0, tq_128_1, tk_130, tj_130, tw_va_s, tw_va_n, tw_K_s, tw_K_n, and_true, true_and, and_false, false_and, true_or, or_true, not_true_eq_false, not_false_eq_true, ↓reduceIte, Nat.reduceEqDiff, h1, tw_get, c1, c2, c4, true_or, not_true_eq_false]
  · simp only [tz_10_0, tz_10_1, tz_10_4, tz_10_5, tz_10_8, tz_10_11, tz_10_12, tz_10_13, tz_10_14, tz_10_17, tz_10_18, tz_10_21, tz_10_24, tz_10_25, tz_10_28, tz_10_29, tz_97_0, tz_97_1, tz_97_2, tz_97_5, tz_97_8, tz_97_9, tz_97_12, tz_97_13, tz_97_14, tz_97_17, tz_97_18, tz_97_21, tz_97_22, tz_94_0, tz_94_1, tz_94_4, tz_94_5, tz_94_6, tz_94_9, tz_94_12, tz_94_13, tz_94_16, tz_94_17, tk_0, tq_0_0, tq_0_1, tq_0_2, tq_0_3, tq_0_4, tq_0_5, tq_0_6, tq_t, tq_s, tk_128, tq_128_0, tq_128_1, tk_130, tj_130, tw_va_s, tw_va_n, tw_K_s, tw_K_n, and_true, true_and, and_false, false_and, true_or, or_true, not_true_eq_false, not_false_eq_true, ↓reduceIte, Nat.reduceEqDiff, h1, tw_get, c1, c2, c4, c5, h4 j hj, vp_in_nI (show j < 4000 by omega) (by omega), or_true]
    by_cases h0 : hd j = 0 <;> simp [h0]
set_option maxRecDepth 100000 in
theorem tw_q_at (hC : tw_Mh mi T sm hd) (x : Int32) : tw_E sc (d + 2) 157 0 [some (.ref 139), some (.int x)] [] tw_g0 mi (tw_r0 t s i) Q = Q (some (.int (tw_get T x sm (-1)))) tw_g0 (tw_th mi) (tw_r0 t s i) := by
  obtain ⟨hT, h1, h3, h4⟩ := hC
  simp only [tz_157_0, tz_157_1, tz_157_2, tz_157_5, tz_157_6, tz_157_7, tz_157_10, tz_157_13, tz_157_14, tz_157_17, tz_157_18, tz_157_21, tz_157_22, tz_157_23, tz_153_0, tz_153_1, tz_153_2, tz_153_3, tz_153_4, tz_153_7, tz_153_8, tz_153_9, tz_153_10, tz_153_13, tz_153_16, tz_153_17, tz_153_20, tz_153_21, tk_139, tq_139_1, tq_139_6, tq_139_7, tq_139_8, tq_139_9, tq_139_10, tq_139_12, tq_139_13, tq_139_14, tq_139_15, tq_139_16, tq_139_17, tq_139_18, tq_139_19, tq_139_21, tq_139_22, tq_139_24, tq_139_26, tq_139_27, tq_139_28, tq_139_34, tq_139_35, tq_139_36, tq_139_37, tw_va_s, tw_va_n, tw_K_s, tw_K_n, and_true, true_and, and_false, false_and, true_or, or_true, not_true_eq_false, not_false_eq_true, ↓reduceIte, Nat.reduceEqDiff, tw_L0, tw_q_in, tw_st_ap, h1, tw_inT (show T < 2 ^ 31 by omega), tw_b0]
  rcases tw_ixc x (T := T) (by omega) with ⟨c1, c2⟩ | ⟨c1, c2, c3, c4⟩ | ⟨j, hj, rfl, c1, c2, c3, c4, c5⟩
  · simp only [tw_get, c2, tw_th]
    simp
  · simp only [tw_get, c4, tw_th]
    simp
  · simp only [tw_get, c4, c5, tw_th, tk_154, tj_154, h3 j hj, vp_in_nI (show j < 4000 by omega) (by omega)]
    simp
set_option maxRecDepth 100000 in
theorem tw_q_held (hC : tw_Mh mi T sm hd) (x : Int32) : tw_E sc (d + 2) 154 0 [some (.ref 139), some (.int x)] [] tw_g0 mi (tw_r0 t s i) Q = Q (some (.int (tw_get T x (fun j => if hd j = 0 then 0 else 1) (-1)))) tw_g0 (tw_th mi) (tw_r0 t s i) := by
  obtain ⟨hT, h1, h3, h4⟩ := hC
  simp only [tz_154_0, tz_154_1, tz_154_2, tz_154_5, tz_154_6, tz_154_7, tz_154_10, tz_154_13, tz_154_14, tz_154_17, tz_154_18, tz_154_21, tz_154_22, tz_154_23, tz_154_26, tz_154_27, tz_154_30, tz_154_31, tz_153_0, tz_153_1, tz_153_2, tz_153_3, tz_153_4, tz_153_7, tz_153_8, tz_153_9, tz_153_10, tz_153_13, tz_153_16, tz_153_17, tz_153_20, tz_153_21, tk_139, tq_139_1, tq_139_6, tq_139_7, tq_139_8, tq_139_9, tq_139_10, tq_139_12, tq_139_13, tq_139_14, tq_139_15, tq_139_16, tq_139_17, tq_139_18, tq_139_19, tq_139_21, tq_139_22, tq_139_24, tq_139_26, tq_139_27, tq_139_28, tq_139_34, tq_139_35, tq_139_36, tq_139_37, tw_va_s, tw_va_n, tw_K_s, tw_K_n, and_true, true_and, and_false, false_and, true_or, or_true, not_true_eq_false, not_false_eq_true, ↓reduceIte, Nat.reduceEqDiff, tw_L0, tw_q_in, tw_st_ap, h1, tw_inT (show T < 2 ^ 31 by omega), tw_b0]
  rcases tw_ixc x (T := T) (by omega) with ⟨c1, c2⟩ | ⟨c1, c2, c3, c4⟩ | ⟨j, hj, rfl, c1, c2, c3, c4, c5⟩
  · simp only [tw_get, c2, tw_th]
    simp
  · simp only [tw_get, c4, tw_th]
    simp
  · simp only [tw_get, c4, c5, tw_th, tk_155, tj_155, h4 j hj, vp_in_nI (show j < 4000 by omega) (by omega)]
    by_cases h0 : hd j = 0 <;> simp [h0]
end tw_ask
