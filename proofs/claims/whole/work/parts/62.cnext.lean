/-! tokens: the class reads numbers, goes on by a token -/
section tw_lex2
variable {sc : Nat × (Nat → Int32)} {d t s i n : Nat} {mi : tw_I} {Q : Option Value → tw_G → tw_I → tw_Q → Prop} {tp : Nat → Nat}
set_option maxRecDepth 100000 in
theorem tw_p_star (hC : tw_CT mi n tp) (hb : ∀ j, j < n → tp j < 256) {p : Nat} (hp : p ≤ n) (h5 : mi 127 5 = nI p) : tw_E sc (d + 2) 85 0 [some (.ref 127)] [] tw_g0 mi (tw_r0 t s i) Q = Q (some (.int (if tx_to n tp p = 42 then 1 else 0))) tw_g0 mi (tw_r0 t s i) := by
  have hl := tx_pl_le (tp := tp) hp
  have hn := hC.1
  simp only [tz_85_0, tz_85_1, tz_85_4, tz_85_5, tz_85_8, tz_85_9, tz_85_12, tz_85_15, tz_85_18, tz_85_20, tz_85_23, tz_85_24, tz_85_27, tz_85_28, tk_127, tq_127_0, tq_i, tk_125, tq_125_0, tw_va_s, tw_va_n, tw_K_s, tw_K_n, and_true, true_and, and_false, false_and, true_or, or_true, not_true_eq_false, not_false_eq_true, ↓reduceIte, Nat.reduceEqDiff, h5, tw_p_sk hC hb hp, tw_p_sign hC (show tx_pl n tp p < 2 ^ 31 by omega)]
  have hs := tx_to_star hb p
  by_cases c : tx_to n tp p = 42
  · rw [if_pos c, hs.mpr c, tl42, tw_ne_f rfl]
  · have c2 : ¬ (if tx_pl n tp p < n then tp (tx_pl n tp p) else 257) = 42 := fun z => c (hs.mp z)
    have c3 : (if tx_pl n tp p < n then tp (tx_pl n tp p) else 257) < 2 ^ 31 := by
      split
      · rename_i z; have := hb _ z; omega
      · omega
    rw [if_neg c, tl42, tw_ne_t c2 c3 (by omega)]
set_option maxRecDepth 100000 in
theorem tw_p_numl (hb : ∀ j, j < n → tp j < 256) : ∀ f k j v (mi : tw_I), 60 = k + f → j ≤ 60 → v ≤ 1000 → tw_CT mi n tp → mi 127 5 = nI j → mi 127 3 = nI v → 
    (∀ mi', (∀ a, a ≠ 127 → mi' a = mi a) → (∀ z, z ≠ 3 → z ≠ 5 → mi' 127 z = mi 127 z) → mi' 127 5 = nI (tx_rl n tp f j) → mi' 127 3 = nI (tx_nc n tp f j v) → ∀ x1, tw_E sc (d + 1) 84 86 [some (.ref 127), some (.int x1)] [] tw_g0 mi' (tw_r0 t s i) Q) →
    tw_E sc (d + 1) 84 15 [some (.ref 127), some (.int (nI k))] [] tw_g0 mi (tw_r0 t s i) Q := by
  intro f
  induction f with
  | zero =>
    intro k j v mi hk hj hv hC h5 h3 hQ
    rw [tz_84_15]
    simp only [tz_84_16, tz_84_18, tl60]
    rw [tw_le_t (by omega) (by omega)]
    exact hQ mi (fun _ _ => rfl) (fun _ _ _ => rfl) h5 h3 _
  | succ f ih =>
    intro k j v mi hk hj hv hC h5 h3 hQ
    have hn := hC.1
    have hlt : (if j < n then tp j else 257) < 2 ^ 31 := by
      split
      · rename_i z; have := hb _ z; omega
      · omega
    rw [tz_84_15]
    simp only [tz_84_16, tz_84_18, tl60]
    rw [tw_le_f (by omega) (by omega)]
    have hdig : (48 ≤ (if j < n then tp j else 257) ∧ (if j < n then tp j else 257) ≤ 57) = (tx_isd n tp j = true) := by
      by_cases g : j < n
      · rw [tx_isd_t g, if_pos g]
      · rw [tx_isd_f g, if_neg g]
        exact propext ⟨fun z => absurd z.2 (by decide), fun z => absurd z (by decide)⟩
    rw [tx_rl, tx_nc] at hQ
    by_cases c : tx_isd n tp j = true
    · rw [if_pos c, if_pos c] at hQ
      have c2 : j < n ∧ 48 ≤ tp j ∧ tp j ≤ 57 := of_decide_eq_true c
      have hd256 : tp j < 2 ^ 31 := by have := hb j c2.1; omega
      have e1 : (10 : Int32) * nI v + nI (tp j) - 48 = nI (10 * v + (tp j - 48)) := by
        rw [tl10, tl48, pk_mul, nI_add, pk_sub (by omega)]
        congr 1
        omega
      have e2 : (if (1000 : Int32) < nI (10 * v + (tp j - 48)) then (1000 : Int32) else nI (10 * v + (tp j - 48))) = nI (min (10 * v + (tp j - 48)) 1000) := by
        rw [tl1000]
        by_cases g : 1000 < 10 * v + (tp j - 48)
        · rw [if_pos (nI_lt g (by omega)), Nat.min_eq_right (by omega)]
        · rw [if_neg (nI_nlt (by omega) (by omega)), Nat.min_eq_left (by omega)]
      simp only [tz_84_0, tz_84_1, tz_84_2, tz_84_5, tz_84_8, tz_84_9, tz_84_10, tz_84_13, tz_84_14, tz_84_16, tz_84_18, tz_84_21, tz_84_22, tz_84_25, tz_84_26, tz_84_29, tz_84_32, tz_84_35, tz_84_38, tz_84_39, tz_84_41, tz_84_42, tz_84_45, tz_84_46, tz_84_47, tz_84_50, tz_84_51, tz_84_54, tz_84_57, tz_84_58, tz_84_60, tz_84_61, tz_84_64, tz_84_67, tz_84_70, tz_84_71, tz_84_72, tz_84_75, tz_84_76, tz_84_77, tz_84_80, tz_84_83, tz_84_86, tz_84_87, tz_84_90, tz_84_91, tz_84_94, tz_84_95, tz_84_96, tz_84_99, tz_84_100, tz_84_103, tz_84_104, tz_84_107, tz_84_108, tz_84_111, tz_84_114, tz_84_117, tz_84_118, tz_84_121, tz_84_122, tz_84_123, tz_84_124, tz_84_125, tz_84_128, tz_84_131, tz_84_134, tz_84_137, tz_84_140, tk_127, tq_127_0, tq_i, tk_125, tq_125_0, tw_va_s, tw_va_n, tw_K_s, tw_K_n, and_true, true_and, and_false, false_and, true_or, or_true, not_true_eq_false, not_false_eq_true, ↓reduceIte, Nat.reduceEqDiff, h5, h3, tw_p_sign hC (show j < 2 ^ 31 by omega), tw_p_isDig hd256, c2.1, c2.2.1, c2.2.2, and_self, show ¬ (1 : Int32) = 0 by decide, e1, e2, nI_1, tw_st_s, tw_st_st, tw_st_ap]
      refine ih (k + 1) (j + 1) (min (10 * v + (tp j - 48)) 1000) _ (by omega) (by omega) (Nat.min_le_right _ _) ?_ ?_ ?_ ?_
      · unfold tw_CT at hC ⊢
        rw [tw_st_n _ _ (by decide), tw_st_n _ _ (by decide)]
        exact hC
      · rw [tw_st_s, tw_st_s]
      · rw [tw_st_s, tw_st_n _ _ (by decide), tw_st_s]
      · exact fun mi' w1 w2 w3 w4 => hQ mi' (fun a ha => by rw [w1 a ha, tw_st_n _ _ ha]) (fun z z1 z2 => by rw [w2 z z1 z2, tw_st_s, tw_st_n _ _ z2, tw_st_n _ _ z1]) w3 w4
    · rw [if_neg c, if_neg c] at hQ
      have z := hQ mi (fun _ _ => rfl) (fun _ _ _ => rfl) h5 h3 (nI k)
      simp only [tz_84_0, tz_84_1, tz_84_2, tz_84_5, tz_84_8, tz_84_9, tz_84_10, tz_84_13, tz_84_14, tz_84_16, tz_84_18, tz_84_21, tz_84_22, tz_84_25, tz_84_26, tz_84_29, tz_84_32, tz_84_35, tz_84_38, tz_84_39, tz_84_41, tz_84_42, tz_84_45, tz_84_46, tz_84_47, tz_84_50, tz_84_51, tz_84_54, tz_84_57, tz_84_58, tz_84_60, tz_84_61, tz_84_64, tz_84_67, tz_84_70, tz_84_71, tz_84_72, tz_84_75, tz_84_76, tz_84_77, tz_84_80, tz_84_83, tz_84_86, tz_84_87, tz_84_90, tz_84_91, tz_84_94, tz_84_95, tz_84_96, tz_84_99, tz_84_100, tz_84_103, tz_84_104, tz_84_107, tz_84_108, tz_84_111, tz_84_114, tz_84_117, tz_84_118, tz_84_121, tz_84_122, tz_84_123, tz_84_124, tz_84_125, tz_84_128, tz_84_131, tz_84_134, tz_84_137, tz_84_140, tk_127, tq_127_0, tq_i, tk_125, tq_125_0, tw_va_s, tw_va_n, tw_K_s, tw_K_n, and_true, true_and, and_false, false_and, true_or, or_true, not_true_eq_false, not_false_eq_true, ↓reduceIte, Nat.reduceEqDiff, h5, h3] at z
      simp only [tz_84_0, tz_84_1, tz_84_2, tz_84_5, tz_84_8, tz_84_9, tz_84_10, tz_84_13, tz_84_14, tz_84_16, tz_84_18, tz_84_21, tz_84_22, tz_84_25, tz_84_26, tz_84_29, tz_84_32, tz_84_35, tz_84_38, tz_84_39, tz_84_41, tz_84_42, tz_84_45, tz_84_46, tz_84_47, tz_84_50, tz_84_51, tz_84_54, tz_84_57, tz_84_58, tz_84_60, tz_84_61, tz_84_64, tz_84_67, tz_84_70, tz_84_71, tz_84_72, tz_84_75, tz_84_76, tz_84_77, tz_84_80, tz_84_83, tz_84_86, tz_84_87, tz_84_90, tz_84_91, tz_84_94, tz_84_95, tz_84_96, tz_84_99, tz_84_100, tz_84_103, tz_84_104, tz_84_107, tz_84_108, tz_84_111, tz_84_114, tz_84_117, tz_84_118, tz_84_121, tz_84_122, tz_84_123, tz_84_124, tz_84_125, tz_84_128, tz_84_131, tz_84_134, tz_84_137, tz_84_140, tk_127, tq_127_0, tq_i, tk_125, tq_125_0, tw_va_s, tw_va_n, tw_K_s, tw_K_n, and_true, true_and, and_false, false_and, true_or, or_true, not_true_eq_false, not_false_eq_true, ↓reduceIte, Nat.reduceEqDiff, h5, h3, tw_p_sign hC (show j < 2 ^ 31 by omega), tw_p_isDig hlt, hdig, c, Bool.false_eq_true]
      exact z
set_option maxRecDepth 100000 in
theorem tw_p_numend {r q v : Nat} (hr : r ≤ 60) (hq : q ≤ r) (hv : v ≤ 1000) (h5 : mi 127 5 = nI r) (h3 : mi 127 3 = nI v) (h4 : mi 127 4 = nI q) (x1 : Option Value)
    (hQ : Q none tw_g0 (tw_st mi 127 (tw_st (mi 127) 2 (nI (if r - q ≤ 3 ∧ 1 ≤ v ∧ v ≤ 999 then 256 else 258)))) (tw_r0 t s i)) : tw_E sc (d + 1) 84 86 [some (.ref 127), x1] [] tw_g0 mi (tw_r0 t s i) Q := by
  have e1 : nI r - nI q = nI (r - q) := pk_sub hq
  by_cases a1 : r - q ≤ 3
  · have b1 : ¬ (3 : Int32) < nI (r - q) := nI_nlt (a := 3) a1 (by omega)
    by_cases a2 : 1 ≤ v
    · have b2 : ¬ nI v < 1 := nI_nlt (b := 1) a2 (by omega)
      by_cases a3 : v ≤ 999
      · have b3 : ¬ (999 : Int32) < nI v := nI_nlt (a := 999) a3 (by omega)
        rw [if_pos ⟨a1, a2, a3⟩] at hQ
        simp only [tz_84_0, tz_84_1, tz_84_2, tz_84_5, tz_84_8, tz_84_9, tz_84_10, tz_84_13, tz_84_14, tz_84_16, tz_84_18, tz_84_21, tz_84_22, tz_84_25, tz_84_26, tz_84_29, tz_84_32, tz_84_35, tz_84_38, tz_84_39, tz_84_41, tz_84_42, tz_84_45, tz_84_46, tz_84_47, tz_84_50, tz_84_51, tz_84_54, tz_84_57, tz_84_58, tz_84_60, tz_84_61, tz_84_64, tz_84_67, tz_84_70, tz_84_71, tz_84_72, tz_84_75, tz_84_76, tz_84_77, tz_84_80, tz_84_83, tz_84_86, tz_84_87, tz_84_90, tz_84_91, tz_84_94, tz_84_95, tz_84_96, tz_84_99, tz_84_100, tz_84_103, tz_84_104, tz_84_107, tz_84_108, tz_84_111, tz_84_114, tz_84_117, tz_84_118, tz_84_121, tz_84_122, tz_84_123, tz_84_124, tz_84_125, tz_84_128, tz_84_131, tz_84_134, tz_84_137, tz_84_140, tk_127, tq_127_0, tq_i, tw_va_s, tw_va_n, tw_K_s, tw_K_n, and_true, true_and, and_false, false_and, true_or, or_true, not_true_eq_false, not_false_eq_true, ↓reduceIte, Nat.reduceEqDiff, h5, h3, h4, e1, b1, b2, b3, show ¬ (1 : Int32) = 0 by decide]
        exact hQ
      · have b3 : (999 : Int32) < nI v := nI_lt (a := 999) (by omega) (by omega)
        rw [if_neg (fun z => a3 z.2.2)] at hQ
        simp only [tz_84_0, tz_84_1, tz_84_2, tz_84_5, tz_84_8, tz_84_9, tz_84_10, tz_84_13, tz_84_14, tz_84_16, tz_84_18, tz_84_21, tz_84_22, tz_84_25, tz_84_26, tz_84_29, tz_84_32, tz_84_35, tz_84_38, tz_84_39, tz_84_41, tz_84_42, tz_84_45, tz_84_46, tz_84_47, tz_84_50, tz_84_51, tz_84_54, tz_84_57, tz_84_58, tz_84_60, tz_84_61, tz_84_64, tz_84_67, tz_84_70, tz_84_71, tz_84_72, tz_84_75, tz_84_76, tz_84_77, tz_84_80, tz_84_83, tz_84_86, tz_84_87, tz_84_90, tz_84_91, tz_84_94, tz_84_95, tz_84_96, tz_84_99, tz_84_100, tz_84_103, tz_84_104, tz_84_107, tz_84_108, tz_84_111, tz_84_114, tz_84_117, tz_84_118, tz_84_121, tz_84_122, tz_84_123, tz_84_124, tz_84_125, tz_84_128, tz_84_131, tz_84_134, tz_84_137, tz_84_140, tk_127, tq_127_0, tq_i, tw_va_s, tw_va_n, tw_K_s, tw_K_n, and_true, true_and, and_false, false_and, true_or, or_true, not_true_eq_false, not_false_eq_true, ↓reduceIte, Nat.reduceEqDiff, h5, h3, h4, e1, b1, b2, b3]
        exact hQ
    · have b2 : nI v < 1 := nI_lt (b := 1) (by omega) (by omega)
      rw [if_neg (fun z => a2 z.2.1)] at hQ
      simp only [tz_84_0, tz_84_1, tz_84_2, tz_84_5, tz_84_8, tz_84_9, tz_84_10, tz_84_13, tz_84_14, tz_84_16, tz_84_18, tz_84_21, tz_84_22, tz_84_25, tz_84_26, tz_84_29, tz_84_32, tz_84_35, tz_84_38, tz_84_39, tz_84_41, tz_84_42, tz_84_45, tz_84_46, tz_84_47, tz_84_50, tz_84_51, tz_84_54, tz_84_57, tz_84_58, tz_84_60, tz_84_61, tz_84_64, tz_84_67, tz_84_70, tz_84_71, tz_84_72, tz_84_75, tz_84_76, tz_84_77, tz_84_80, tz_84_83, tz_84_86, tz_84_87, tz_84_90, tz_84_91, tz_84_94, tz_84_95, tz_84_96, tz_84_99, tz_84_100, tz_84_103, tz_84_104, tz_84_107, tz_84_108, tz_84_111, tz_84_114, tz_84_117, tz_84_118, tz_84_121, tz_84_122, tz_84_123, tz_84_124, tz_84_125, tz_84_128, tz_84_131, tz_84_134, tz_84_137, tz_84_140, tk_127, tq_127_0, tq_i, tw_va_s, tw_va_n, tw_K_s, tw_K_n, and_true, true_and, and_false, false_and, true_or, or_true, not_true_eq_false, not_false_eq_true, ↓reduceIte, Nat.reduceEqDiff, h5, h3, h4, e1, b1, b2]
      exact hQ
  · have b1 : (3 : Int32) < nI (r - q) := nI_lt (a := 3) (by omega) (by omega)
    rw [if_neg (fun z => a1 z.1)] at hQ
    simp only [tz_84_0, tz_84_1, tz_84_2, tz_84_5, tz_84_8, tz_84_9, tz_84_10, tz_84_13, tz_84_14, tz_84_16, tz_84_18, tz_84_21, tz_84_22, tz_84_25, tz_84_26, tz_84_29, tz_84_32, tz_84_35, tz_84_38, tz_84_39, tz_84_41, tz_84_42, tz_84_45, tz_84_46, tz_84_47, tz_84_50, tz_84_51, tz_84_54, tz_84_57, tz_84_58, tz_84_60, tz_84_61, tz_84_64, tz_84_67, tz_84_70, tz_84_71, tz_84_72, tz_84_75, tz_84_76, tz_84_77, tz_84_80, tz_84_83, tz_84_86, tz_84_87, tz_84_90, tz_84_91, tz_84_94, tz_84_95, tz_84_96, tz_84_99, tz_84_100, tz_84_103, tz_84_104, tz_84_107, tz_84_108, tz_84_111, tz_84_114, tz_84_117, tz_84_118, tz_84_121, tz_84_122, tz_84_123, tz_84_124, tz_84_125, tz_84_128, tz_84_131, tz_84_134, tz_84_137, tz_84_140, tk_127, tq_127_0, tq_i, tw_va_s, tw_va_n, tw_K_s, tw_K_n, and_true, true_and, and_false, false_and, true_or, or_true, not_true_eq_false, not_false_eq_true, ↓reduceIte, Nat.reduceEqDiff, h5, h3, h4, e1, b1]
    exact hQ
set_option maxRecDepth 100000 in
theorem tw_p_adv (hb : ∀ j, j < n → tp j < 256) {p : Nat} (hp : p ≤ n) (hC : tw_CT mi n tp) (h5 : mi 127 5 = nI p)
    (hQ : ∀ mi', tx_CP mi' n tp p → (∀ a, a ≠ 127 → mi' a = mi a) → (∀ z, z ≠ 2 → z ≠ 3 → z ≠ 4 → z ≠ 5 → mi' 127 z = mi 127 z) → Q none tw_g0 mi' (tw_r0 t s i)) :
    tw_E sc (d + 2) 83 0 [some (.ref 127)] [] tw_g0 mi (tw_r0 t s i) Q := by
  have hl := tx_pl_le (tp := tp) hp
  have hn := hC.1
  generalize hq : tx_pl n tp p = q at hl
  have hlt : (if q < n then tp q else 257) < 2 ^ 31 := by
    split
    · rename_i z; have := hb _ z; omega
    · omega
  have hdig : (48 ≤ (if q < n then tp q else 257) ∧ (if q < n then tp q else 257) ≤ 57) = (tx_isd n tp q = true) := by
    by_cases g : q < n
    · rw [tx_isd_t g, if_pos g]
    · rw [tx_isd_f g, if_neg g]
      exact propext ⟨fun z => absurd z.2 (by decide), fun z => absurd z (by decide)⟩
  have hC2 : ∀ F, tw_CT (tw_st mi 127 F) n tp := fun F => by
    unfold tw_CT at hC ⊢
    rw [tw_st_n _ _ (by decide), tw_st_n _ _ (by decide)]
    exact hC
  simp only [tz_83_0, tz_83_1, tz_83_2, tz_83_5, tz_83_6, tz_83_9, tz_83_12, tz_83_15, tz_83_16, tz_83_17, tz_83_20, tz_83_21, tz_83_24, tz_83_27, tz_83_30, tz_83_31, tz_83_34, tz_83_37, tz_83_40, tz_83_41, tz_83_44, tz_83_47, tz_83_48, tz_83_49, tz_83_52, tz_83_55, tz_83_58, tz_83_59, tz_83_62, tz_83_65, tz_83_66, tz_83_69, tz_83_70, tz_83_71, tz_83_74, tk_127, tq_127_0, tq_i, tk_125, tq_125_0, tw_va_s, tw_va_n, tw_K_s, tw_K_n, and_true, true_and, and_false, false_and, true_or, or_true, not_true_eq_false, not_false_eq_true, ↓reduceIte, Nat.reduceEqDiff, h5, tw_p_sk hC hb hp, hq]
  simp only [tz_83_0, tz_83_1, tz_83_2, tz_83_5, tz_83_6, tz_83_9, tz_83_12, tz_83_15, tz_83_16, tz_83_17, tz_83_20, tz_83_21, tz_83_24, tz_83_27, tz_83_30, tz_83_31, tz_83_34, tz_83_37, tz_83_40, tz_83_41, tz_83_44, tz_83_47, tz_83_48, tz_83_49, tz_83_52, tz_83_55, tz_83_58, tz_83_59, tz_83_62, tz_83_65, tz_83_66, tz_83_69, tz_83_70, tz_83_71, tz_83_74, tk_127, tq_127_0, tq_i, tk_125, tq_125_0, tw_va_s, tw_va_n, tw_K_s, tw_K_n, and_true, true_and, and_false, false_and, true_or, or_true, not_true_eq_false, not_false_eq_true, ↓reduceIte, Nat.reduceEqDiff, tw_st_s, tw_st_st, tw_st_ap, Nat.reduceEqDiff, tw_p_sign (hC2 _) (show q < 2 ^ 31 by omega), tw_p_isDig hlt, hdig, nI_1]
  have et : tx_to n tp p = if q < n then (if tx_isd n tp q then (if tx_rl n tp 60 q - q ≤ 3 ∧ 1 ≤ tx_nc n tp 60 q 0 ∧ tx_nc n tp 60 q 0 ≤ 999 then 256 else 258) else tp q) else 257 := by unfold tx_to tx_nu; rw [hq]
  have ee : tx_en n tp p = if q < n then (if tx_isd n tp q then tx_rl n tp 60 q else q + 1) else q := by unfold tx_en; rw [hq]
  have en : tx_nu n tp p = tx_nc n tp 60 q 0 := by unfold tx_nu; rw [hq]
  by_cases c : tx_isd n tp q = true
  · have c2 : q < n ∧ 48 ≤ tp q ∧ tp q ≤ 57 := of_decide_eq_true c
    rw [if_pos c2.1, if_pos c] at et ee
    have hrl := tx_rl_le (n := n) (tp := tp) 60 q hl.2
    simp only [c, ↓reduceIte, show ¬ (1 : Int32) = 0 by decide, tz_84_0, tz_84_1, tz_84_2, tz_84_5, tz_84_8, tz_84_9, tz_84_10, tz_84_13, tz_84_14, tz_84_16, tz_84_18, tz_84_21, tz_84_22, tz_84_25, tz_84_26, tz_84_29, tz_84_32, tz_84_35, tz_84_38, tz_84_39, tz_84_41, tz_84_42, tz_84_45, tz_84_46, tz_84_47, tz_84_50, tz_84_51, tz_84_54, tz_84_57, tz_84_58, tz_84_60, tz_84_61, tz_84_64, tz_84_67, tz_84_70, tz_84_71, tz_84_72, tz_84_75, tz_84_76, tz_84_77, tz_84_80, tz_84_83, tz_84_86, tz_84_87, tz_84_90, tz_84_91, tz_84_94, tz_84_95, tz_84_96, tz_84_99, tz_84_100, tz_84_103, tz_84_104, tz_84_107, tz_84_108, tz_84_111, tz_84_114, tz_84_117, tz_84_118, tz_84_121, tz_84_122, tz_84_123, tz_84_124, tz_84_125, tz_84_128, tz_84_131, tz_84_134, tz_84_137, tz_84_140, tk_127, tq_127_0, tq_i, tk_125, tq_125_0, tw_va_s, tw_va_n, tw_K_s, tw_K_n, and_true, true_and, and_false, false_and, true_or, or_true, not_true_eq_false, not_false_eq_true, ↓reduceIte, Nat.reduceEqDiff, tw_st_s, tw_st_st, tw_st_ap, Nat.reduceEqDiff]
    refine tw_p_numl hb 60 0 q 0 _ rfl (by omega) (by omega) (hC2 _) ?_ ?_ ?_
    · simp [tw_st_ap]
    · simp [tw_st_ap, nI_0]
    · intro mi' w1 w2 w3 w4 x1
      have w5 : mi' 127 4 = nI q := by rw [w2 4 (by decide) (by decide)]; simp [tw_st_ap]
      refine tw_p_numend (q := q) (by omega) hrl.1 (tx_nc_le 60 q 0 (by omega)) w3 w4 w5 _ ?_
      simp only [tz_83_0, tz_83_1, tz_83_2, tz_83_5, tz_83_6, tz_83_9, tz_83_12, tz_83_15, tz_83_16, tz_83_17, tz_83_20, tz_83_21, tz_83_24, tz_83_27, tz_83_30, tz_83_31, tz_83_34, tz_83_37, tz_83_40, tz_83_41, tz_83_44, tz_83_47, tz_83_48, tz_83_49, tz_83_52, tz_83_55, tz_83_58, tz_83_59, tz_83_62, tz_83_65, tz_83_66, tz_83_69, tz_83_70, tz_83_71, tz_83_74, tw_va_s, tw_va_n, tw_K_s, tw_K_n, and_true, true_and, and_false, false_and, true_or, or_true, not_true_eq_false, not_false_eq_true, ↓reduceIte, Nat.reduceEqDiff]
      refine hQ _ ⟨?_, ?_, ?_, fun _ => ?_⟩ (fun a ha => by rw [tw_st_n _ _ ha, w1 a ha, tw_st_n _ _ ha]) (fun z z1 z2 z3 z4 => ?_)
      · rw [tw_st_s, tw_st_n _ _ (by decide), w5, hq]
      · rw [tw_st_s, tw_st_s, et]
      · rw [tw_st_s, tw_st_n _ _ (by decide), w3, ee]
      · rw [tw_st_s, tw_st_n _ _ (by decide), w4, en]
      · rw [tw_st_s, tw_st_n _ _ z1, w2 z z2 z4]
        simp [tw_st_ap, z1, z2, z3, z4]
  · have key : ∀ (B : Nat), B = tx_en n tp p → tx_to n tp p = (if q < n then tp q else 257) → ¬ tx_to n tp p = 256 → Q none tw_g0 (tw_st mi 127 (tw_st (tw_st (tw_st (mi 127) 4 (nI q)) 2 (nI (if q < n then tp q else 257))) 5 (nI B))) (tw_r0 t s i) := by
      intro B eB eT n256
      refine hQ _ ⟨?_, ?_, ?_, fun z => absurd z n256⟩ (fun a ha => by rw [tw_st_n _ _ ha]) (fun z z1 z2 z3 z4 => by simp [tw_st_ap, z1, z2, z3, z4])
      · simp [tw_st_ap, hq]
      · simp [tw_st_ap, eT]
      · simp [tw_st_ap, eB]
    simp only [c, Bool.false_eq_true, ↓reduceIte]
    by_cases g : q < n
    · have := hb q g
      rw [if_pos g, if_neg c] at et ee
      simp only [g, ↓reduceIte] at key ⊢
      rw [tl257, tw_ne_t (by omega) (by omega) (by omega)]
      exact key (q + 1) ee.symm et (by omega)
    · rw [if_neg g] at et ee
      simp only [g, ↓reduceIte] at key ⊢
      rw [tl257, tw_ne_f rfl]
      exact key q ee.symm et (by omega)
end tw_lex2
