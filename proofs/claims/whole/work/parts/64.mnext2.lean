/-! tokens: the reference goes on by one, the rest -/
section tw_mlex2
variable {sc : Nat × (Nat → Int32)} {d t s i n : Nat} {mi : tw_I} {Q : Option Value → tw_G → tw_I → tw_Q → Prop} {tp : Nat → Nat}
set_option maxRecDepth 100000 in
theorem tw_q_numl (hn : n ≤ 60) (hb : ∀ j, j < n → tp j < 256) {b : Nat} : ∀ f j v (mi : tw_I), n ≤ j + f → b ≤ j → j ≤ n → mi 139 2 = nI n → (∀ j, j < n → mi 140 j = nI (tp j)) → mi 139 29 = nI j → mi 139 31 = nI b → mi 139 32 = nI v →
    (∀ mi', (∀ a, a ≠ 139 → mi' a = mi a) → (∀ z, z ≠ 29 → z ≠ 32 → mi' 139 z = mi 139 z) → mi' 139 29 = nI (tx_rl n tp f j) → mi' 139 32 = nI (tx_nm n tp b f j v) → tw_E sc (d + 2) 131 147 [some (.ref 139)] [] tw_g0 mi' (tw_r0 t s i) Q) →
    tw_E sc (d + 2) 131 79 [some (.ref 139)] [] tw_g0 mi (tw_r0 t s i) Q := by
  intro f
  induction f with
  | zero =>
    intro j v mi h1 hbj h2 e2 e140 e29 e31 e32 hQ
    have c : ¬ tx_isd n tp j = true := by rw [tx_isd_f (by omega)]; decide
    rw [tz_131_79]
    simp only [tz_131_80, tz_131_81, tz_131_84, tk_139, tq_139_1, tq_139_6, tq_139_7, tq_139_8, tq_139_9, tq_139_10, tq_139_12, tq_139_13, tq_139_14, tq_139_15, tq_139_16, tq_139_17, tq_139_18, tq_139_19, tq_139_21, tq_139_22, tq_139_24, tq_139_26, tq_139_27, tq_139_28, tq_139_34, tq_139_35, tq_139_36, tq_139_37, tw_va_s, tw_va_n, tw_K_s, tw_K_n, and_true, true_and, and_false, false_and, true_or, or_true, not_true_eq_false, not_false_eq_true, ↓reduceIte, Nat.reduceEqDiff, e29, tw_q_isDig hn e2 e140 (show j < 2 ^ 31 by omega) hb]
    rw [if_neg c]
    simp only [tz_131_87, ↓reduceIte]
    exact hQ mi (fun _ _ => rfl) (fun _ _ _ => rfl) e29 e32
  | succ f ih =>
    intro j v mi h1 hbj h2 e2 e140 e29 e31 e32 hQ
    rw [tz_131_79]
    simp only [tz_131_80, tz_131_81, tz_131_84, tk_139, tq_139_1, tq_139_6, tq_139_7, tq_139_8, tq_139_9, tq_139_10, tq_139_12, tq_139_13, tq_139_14, tq_139_15, tq_139_16, tq_139_17, tq_139_18, tq_139_19, tq_139_21, tq_139_22, tq_139_24, tq_139_26, tq_139_27, tq_139_28, tq_139_34, tq_139_35, tq_139_36, tq_139_37, tw_va_s, tw_va_n, tw_K_s, tw_K_n, and_true, true_and, and_false, false_and, true_or, or_true, not_true_eq_false, not_false_eq_true, ↓reduceIte, Nat.reduceEqDiff, e29, tw_q_isDig hn e2 e140 (show j < 2 ^ 31 by omega) hb]
    rw [tx_rl, tx_nm] at hQ
    by_cases c : tx_isd n tp j = true
    · rw [if_pos c, if_pos c] at hQ
      rw [if_pos c]
      have c2 : j < n ∧ 48 ≤ tp j ∧ tp j ≤ 57 := of_decide_eq_true c
      have e1 : (10 : Int32) * nI v + nI (tp j) - 48 = nI (10 * v + (tp j - 48)) := by
        rw [tl10, tl48, pk_mul, nI_add, pk_sub (by omega)]
        congr 1
        omega
      have e3 : nI j - nI b = nI (j - b) := pk_sub hbj
      have go : ∀ V, nI V = nI (if j - b < 3 then 10 * v + (tp j - 48) else v) → tw_E sc (d + 2) 131 79 [some (.ref 139)] [] tw_g0 (tw_st mi 139 (tw_st (tw_st (mi 139) 32 (nI V)) 29 (nI (j + 1)))) (tw_r0 t s i) Q := by
        intro V eV
        refine ih (j + 1) (if j - b < 3 then 10 * v + (tp j - 48) else v) _ (by omega) (by omega) (by omega) ?_ ?_ ?_ ?_ ?_ ?_
        · simp only [tw_st_ap, ↓reduceIte, Nat.reduceEqDiff]; exact e2
        · rw [tw_st_n _ _ (by decide)]; exact e140
        · simp only [tw_st_ap, ↓reduceIte, Nat.reduceEqDiff]
        · simp only [tw_st_ap, ↓reduceIte, Nat.reduceEqDiff]; exact e31
        · simp only [tw_st_ap, ↓reduceIte, Nat.reduceEqDiff]; exact eV
        · exact fun mi' w1 w2 w3 w4 => hQ mi' (fun a ha => by rw [w1 a ha, tw_st_n _ _ ha]) (fun z z1 z2 => by rw [w2 z z1 z2, tw_st_s, tw_st_n _ _ z1, tw_st_n _ _ z2]) w3 w4
      simp only [tz_131_87, tz_131_90, tz_131_91, tz_131_92, tz_131_95, tz_131_96, tz_131_99, tz_131_100, tz_131_101, tk_139, tq_139_1, tq_139_6, tq_139_7, tq_139_8, tq_139_9, tq_139_10, tq_139_12, tq_139_13, tq_139_14, tq_139_15, tq_139_16, tq_139_17, tq_139_18, tq_139_19, tq_139_21, tq_139_22, tq_139_24, tq_139_26, tq_139_27, tq_139_28, tq_139_34, tq_139_35, tq_139_36, tq_139_37, tw_va_s, tw_va_n, tw_K_s, tw_K_n, and_true, true_and, and_false, false_and, true_or, or_true, not_true_eq_false, not_false_eq_true, ↓reduceIte, Nat.reduceEqDiff, show ¬ (1 : Int32) = 0 by decide, e29, e31, e3]
      by_cases g : j - b < 3
      · have g2 : ¬ (3 : Int32) ≤ nI (j - b) := nI_ge (b := 3) g (by omega)
        rw [if_neg g2]
        simp only [tz_131_104, tz_131_106, tz_131_107, tz_131_110, tz_131_111, tz_131_112, tz_131_115, tz_131_116, tz_131_119, tz_131_120, tz_131_121, tz_131_123, tz_131_124, tz_131_131, tz_131_134, tz_131_135, tz_131_136, tz_131_139, tz_131_140, tz_131_141, tz_131_144, tk_139, tq_139_1, tq_139_6, tq_139_7, tq_139_8, tq_139_9, tq_139_10, tq_139_12, tq_139_13, tq_139_14, tq_139_15, tq_139_16, tq_139_17, tq_139_18, tq_139_19, tq_139_21, tq_139_22, tq_139_24, tq_139_26, tq_139_27, tq_139_28, tq_139_34, tq_139_35, tq_139_36, tq_139_37, tk_140, tj_140, tw_va_s, tw_va_n, tw_K_s, tw_K_n, and_true, true_and, and_false, false_and, true_or, or_true, not_true_eq_false, not_false_eq_true, ↓reduceIte, Nat.reduceEqDiff, e29, e32, nI_clamp (show j < 2 ^ 31 by omega), vp_in_nI (show j < 60 by omega) (by omega), e140 j c2.1, e1, tw_st_s, tw_st_st, tw_st_ap, Nat.reduceEqDiff, nI_1]
        exact go _ (by rw [if_pos g])
      · have g2 : (3 : Int32) ≤ nI (j - b) := nI_le (a := 3) (by omega) (by omega)
        rw [if_pos g2]
        simp only [tz_131_127, tz_131_128, tz_131_131, tz_131_134, tz_131_135, tz_131_136, tz_131_139, tz_131_140, tz_131_141, tz_131_144, tk_139, tq_139_1, tq_139_6, tq_139_7, tq_139_8, tq_139_9, tq_139_10, tq_139_12, tq_139_13, tq_139_14, tq_139_15, tq_139_16, tq_139_17, tq_139_18, tq_139_19, tq_139_21, tq_139_22, tq_139_24, tq_139_26, tq_139_27, tq_139_28, tq_139_34, tq_139_35, tq_139_36, tq_139_37, tk_140, tj_140, tw_va_s, tw_va_n, tw_K_s, tw_K_n, and_true, true_and, and_false, false_and, true_or, or_true, not_true_eq_false, not_false_eq_true, ↓reduceIte, Nat.reduceEqDiff, e29, e32, tw_st_s, tw_st_st, tw_st_ap, Nat.reduceEqDiff, nI_1]
        exact go _ (by rw [if_neg g])
    · rw [if_neg c, if_neg c] at hQ
      rw [if_neg c]
      simp only [tz_131_87, ↓reduceIte]
      exact hQ mi (fun _ _ => rfl) (fun _ _ _ => rfl) e29 e32
set_option maxRecDepth 100000 in
theorem tw_q_signB {c : Nat} (hc : c < 256) : tw_E sc d 130 0 [some (.int (nI c))] [] tw_g0 mi (tw_r0 t s i) Q = Q (some (.int (if tx_sg c then 1 else 0))) tw_g0 mi (tw_r0 t s i) := by
  have e : ∀ z, z < 2 ^ 31 → (nI c = nI z) = (c = z) := fun z hz => propext (nI_eq (by omega) hz)
  simp only [tz_130_0, tz_130_1, tz_130_3, tz_130_6, tz_130_7, tz_130_9, tz_130_12, tz_130_13, tz_130_15, tz_130_18, tz_130_19, tz_130_21, tz_130_24, tz_130_25, tz_130_27, tz_130_30, tz_130_31, tz_130_33, tz_130_36, tz_130_37, tz_130_39, tz_130_42, tz_130_43, tz_130_45, tz_130_48, tz_130_49, tz_130_51, tz_130_54, tz_130_55, tz_130_57, tz_130_60, tz_130_61, tz_130_63, tz_130_66, tz_130_67, tz_130_69, tz_130_72, tz_130_73, tz_130_76, tz_130_77, tw_va_s, tw_va_n, tw_K_s, tw_K_n, and_true, true_and, and_false, false_and, true_or, or_true, not_true_eq_false, not_false_eq_true, ↓reduceIte, Nat.reduceEqDiff, tl59, tl58, tl44, tl47, tl38, tl42, tl33, tl43, tl45, tl126, tl40, tl41, e _ (show 59 < 2 ^ 31 by omega), e _ (show 58 < 2 ^ 31 by omega), e _ (show 44 < 2 ^ 31 by omega), e _ (show 47 < 2 ^ 31 by omega), e _ (show 38 < 2 ^ 31 by omega), e _ (show 42 < 2 ^ 31 by omega), e _ (show 33 < 2 ^ 31 by omega), e _ (show 43 < 2 ^ 31 by omega), e _ (show 45 < 2 ^ 31 by omega), e _ (show 126 < 2 ^ 31 by omega), e _ (show 40 < 2 ^ 31 by omega), e _ (show 41 < 2 ^ 31 by omega)]
  unfold tx_sg
  by_cases h1 : c = 59
  · simp [h1]
  by_cases h2 : c = 58
  · simp [h2]
  by_cases h3 : c = 44
  · simp [h3]
  by_cases h4 : c = 47
  · simp [h4]
  by_cases h5 : c = 38
  · simp [h5]
  by_cases h6 : c = 42
  · simp [h6]
  by_cases h7 : c = 33
  · simp [h7]
  by_cases h8 : c = 43
  · simp [h8]
  by_cases h9 : c = 45
  · simp [h9]
  by_cases h10 : c = 126
  · simp [h10]
  by_cases h11 : c = 40
  · simp [h11]
  by_cases h12 : c = 41
  · simp [h12]
  simp [h1, h2, h3, h4, h5, h6, h7, h8, h9, h10, h11, h12]
end tw_mlex2
