/-! frames: the reference's -/
section tw_mframes
variable {sc : Nat × (Nat → Int32)} {d t s i N k T : Nat} {mi : tw_I} {Q : Option Value → tw_G → tw_I → tw_Q → Prop} {Z : tw_Km} {sm hd : Nat → Int32}
set_option maxRecDepth 100000 in
theorem tw_Mh_fr2 (hC : tw_Mh mi T sm hd) {mi' : tw_I} (h : ∀ a, a ≠ 139 → a ≠ 157 → a ≠ 158 → a ≠ 159 → mi' a = mi a) (h2 : ∀ c, c ≠ 25 → mi' 139 c = mi 139 c) : tw_Mh mi' T sm hd := by
  unfold tw_Mh at hC ⊢
  rw [h2 20 (by decide), h 154 (by decide) (by decide) (by decide) (by decide), h 155 (by decide) (by decide) (by decide) (by decide)]
  exact hC
set_option maxRecDepth 100000 in
theorem tw_q_beg (hC : tw_Mh mi T sm hd) {w : Int32} {j : Nat} (hj : j < T) : tw_E sc (d + 1) 165 0 [some (.ref 139), some (.int w), some (.int (nI j))] [] tw_g0 mi (tw_r0 t s i) Q = Q (some (.int (if tw_beg (fun j => tw_bt (sm j) w) j then 1 else 0))) tw_g0 mi (tw_r0 t s i) := by
  obtain ⟨hT, h20, h154, _⟩ := hC
  have eb : ∀ x, x >>> (w &&& 31) &&& 1 = tw_bt x w := fun _ => rfl
  by_cases c : tw_bt (sm j) w = 0
  · by_cases h0 : j = 0
    · have e0 : nI j = 0 := by rw [h0]; rfl
      have hb : tw_beg (fun j => tw_bt (sm j) w) j := ⟨c, Or.inl h0⟩
      have e9 := eq_true e0
      rw [if_pos hb]
      simp only [tz_165_0, tz_165_1, tz_165_4, tz_165_5, tz_165_6, tz_165_7, tz_165_10, tz_165_13, tz_165_14, tz_165_17, tz_165_18, tz_165_21, tz_165_22, tz_165_23, tz_165_24, tz_165_25, tz_165_26, tz_165_29, tz_165_30, tz_165_33, tz_165_34, tz_165_37, tz_165_38, tz_146_0, tz_146_1, tz_146_2, tz_146_3, tz_146_4, tz_146_5, tk_139, tq_139_1, tq_139_6, tq_139_7, tq_139_8, tq_139_9, tq_139_10, tq_139_12, tq_139_13, tq_139_14, tq_139_15, tq_139_16, tq_139_17, tq_139_18, tq_139_19, tq_139_21, tq_139_22, tq_139_24, tq_139_26, tq_139_27, tq_139_28, tq_139_34, tq_139_35, tq_139_36, tq_139_37, tk_154, tj_154, tw_va_s, tw_va_n, tw_K_s, tw_K_n, and_true, true_and, and_false, false_and, true_or, or_true, not_true_eq_false, not_false_eq_true, ↓reduceIte, Nat.reduceEqDiff, nI_clamp (show j < 2 ^ 31 by omega), vp_in_nI (show j < 4000 by omega) (by omega), h154 j hj, eb, c, e9]
    · have e0 : ¬ nI j = 0 := nI_ne0 (by omega) (by omega)
      have e1 : nI j - 1 = nI (j - 1) := pk_sub (b := 1) (by omega)
      simp only [tz_165_0, tz_165_1, tz_165_4, tz_165_5, tz_165_6, tz_165_7, tz_165_10, tz_165_13, tz_165_14, tz_165_17, tz_165_18, tz_165_21, tz_165_22, tz_165_23, tz_165_24, tz_165_25, tz_165_26, tz_165_29, tz_165_30, tz_165_33, tz_165_34, tz_165_37, tz_165_38, tz_146_0, tz_146_1, tz_146_2, tz_146_3, tz_146_4, tz_146_5, tk_139, tq_139_1, tq_139_6, tq_139_7, tq_139_8, tq_139_9, tq_139_10, tq_139_12, tq_139_13, tq_139_14, tq_139_15, tq_139_16, tq_139_17, tq_139_18, tq_139_19, tq_139_21, tq_139_22, tq_139_24, tq_139_26, tq_139_27, tq_139_28, tq_139_34, tq_139_35, tq_139_36, tq_139_37, tk_154, tj_154, tw_va_s, tw_va_n, tw_K_s, tw_K_n, and_true, true_and, and_false, false_and, true_or, or_true, not_true_eq_false, not_false_eq_true, ↓reduceIte, Nat.reduceEqDiff, nI_clamp (show j < 2 ^ 31 by omega), nI_clamp (show j - 1 < 2 ^ 31 by omega), vp_in_nI (show j < 4000 by omega) (by omega), vp_in_nI (show j - 1 < 4000 by omega) (by omega), h154 j hj, h154 (j - 1) (by omega), eb, c, e0, e1]
      by_cases c1 : tw_bt (sm (j - 1)) w = 1
      · have hb : tw_beg (fun j => tw_bt (sm j) w) j := ⟨c, Or.inr c1⟩
        rw [if_pos hb]
        simp only [c1, not_true_eq_false, ↓reduceIte]
      · have hb : ¬ tw_beg (fun j => tw_bt (sm j) w) j := fun z => z.2.elim h0 c1
        rw [if_neg hb]
        simp only [c1, not_false_eq_true, ↓reduceIte]
  · have hb : ¬ tw_beg (fun j => tw_bt (sm j) w) j := fun z => c z.1
    rw [if_neg hb]
    simp only [tz_165_0, tz_165_1, tz_165_4, tz_165_5, tz_165_6, tz_165_7, tz_165_10, tz_165_13, tz_165_14, tz_165_17, tz_165_18, tz_165_21, tz_165_22, tz_165_23, tz_165_24, tz_165_25, tz_165_26, tz_165_29, tz_165_30, tz_165_33, tz_165_34, tz_165_37, tz_165_38, tz_146_0, tz_146_1, tz_146_2, tz_146_3, tz_146_4, tz_146_5, tk_139, tq_139_1, tq_139_6, tq_139_7, tq_139_8, tq_139_9, tq_139_10, tq_139_12, tq_139_13, tq_139_14, tq_139_15, tq_139_16, tq_139_17, tq_139_18, tq_139_19, tq_139_21, tq_139_22, tq_139_24, tq_139_26, tq_139_27, tq_139_28, tq_139_34, tq_139_35, tq_139_36, tq_139_37, tk_154, tj_154, tw_va_s, tw_va_n, tw_K_s, tw_K_n, and_true, true_and, and_false, false_and, true_or, or_true, not_true_eq_false, not_false_eq_true, ↓reduceIte, Nat.reduceEqDiff, nI_clamp (show j < 2 ^ 31 by omega), vp_in_nI (show j < 4000 by omega) (by omega), h154 j hj, eb, c]
set_option maxRecDepth 100000 in
theorem tw_q_vall (hC : tw_Mh mi T sm hd) {w : Int32} {s' : Nat} (hk : k ≤ 20) (hm : s' + k / 2 + k * 8 < T) (x6 : Option Value)
    (hQ : tw_E sc (d + 1) 166 122 [some (.ref 139), some (.int w), some (.int (nI k)), some (.int (nI s')), some (.int (nI (k / 2))), some (.int (tw_val (fun j => tw_bt (sm j) w) k (s' + k / 2) 8)), x6, some (.int (nI 8))] [] tw_g0 mi (tw_r0 t s i) Q) : ∀ f j, 8 = j + f → tw_E sc (d + 1) 166 81 [some (.ref 139), some (.int w), some (.int (nI k)), some (.int (nI s')), some (.int (nI (k / 2))), some (.int (tw_val (fun j => tw_bt (sm j) w) k (s' + k / 2) j)), x6, some (.int (nI j))] [] tw_g0 mi (tw_r0 t s i) Q := by
  have hT := hC.1
  intro f
  induction f with
  | zero =>
    intro j hj
    obtain rfl : j = 8 := by omega
    rw [tz_166_81]
    simp only [tz_166_83, tz_166_85, tl8]
    rw [tw_le_t (by omega) (by omega)]
    exact hQ
  | succ f ih =>
    intro j hj
    have hb : k * (j + 1) ≤ k * 8 := Nat.mul_le_mul_left k (by omega)
    have e1 : nI s' + nI k * nI (j + 1) + nI (k / 2) = nI (s' + k / 2 + k * (j + 1)) := by rw [pk_mul, nI_add, nI_add]; congr 1; omega
    have := ih (j + 1) (by omega)
    rw [tz_166_81]
    simp only [tz_166_0, tz_166_1, tz_166_2, tz_166_3, tz_166_5, tz_166_6, tz_166_8, tz_166_9, tz_166_10, tz_166_13, tz_166_16, tz_166_18, tz_166_19, tz_166_20, tz_166_23, tz_166_24, tz_166_26, tz_166_27, tz_166_28, tz_166_29, tz_166_32, tz_166_33, tz_166_36, tz_166_37, tz_166_38, tz_166_40, tz_166_41, tz_166_43, tz_166_44, tz_166_47, tz_166_48, tz_166_50, tz_166_51, tz_166_52, tz_166_53, tz_166_55, tz_166_56, tz_166_58, tz_166_59, tz_166_60, tz_166_61, tz_166_63, tz_166_64, tz_166_66, tz_166_68, tz_166_69, tz_166_72, tz_166_75, tz_166_77, tz_166_78, tz_166_79, tz_166_83, tz_166_85, tz_166_88, tz_166_90, tz_166_91, tz_166_94, tz_166_95, tz_166_96, tz_166_98, tz_166_99, tz_166_100, tz_166_101, tz_166_102, tz_166_104, tz_166_105, tz_166_106, tz_166_107, tz_166_110, tz_166_112, tz_166_113, tz_166_114, tz_166_116, tz_166_119, tz_166_122, tz_166_123, tz_166_126, tz_166_128, tz_166_129, tz_166_130, tz_166_133, tz_166_136, tz_166_137, tz_166_138, tz_166_140, tz_166_142, tz_166_145, tz_166_148, tz_166_149, tz_166_150, tz_166_152, tz_166_153, tz_166_156, tz_166_158, tz_146_0, tz_146_1, tz_146_2, tz_146_3, tz_146_4, tz_146_5, tk_139, tq_139_1, tq_139_6, tq_139_7, tq_139_8, tq_139_9, tq_139_10, tq_139_12, tq_139_13, tq_139_14, tq_139_15, tq_139_16, tq_139_17, tq_139_18, tq_139_19, tq_139_21, tq_139_22, tq_139_24, tq_139_26, tq_139_27, tq_139_28, tq_139_34, tq_139_35, tq_139_36, tq_139_37, tk_154, tj_154, tw_va_s, tw_va_n, tw_K_s, tw_K_n, and_true, true_and, and_false, false_and, true_or, or_true, not_true_eq_false, not_false_eq_true, ↓reduceIte, Nat.reduceEqDiff, tl8, nI_1, e1, nI_clamp (show s' + k / 2 + k * (j + 1) < 2 ^ 31 by omega), vp_in_nI (show s' + k / 2 + k * (j + 1) < 4000 by omega) (by omega), hC.2.2.1 (s' + k / 2 + k * (j + 1)) (by omega)]
    rw [tw_le_f (by omega) (by omega)]
    exact this
set_option maxRecDepth 100000 in
theorem tw_q_frm (hC : tw_Mh mi T sm hd) (hZ : tw_MK mi Z) {w : Int32} {s' : Nat} (hk : k ≤ 20) (hs : s' < 4000)
    (hQ : ∀ mi', tw_MK mi' (tw_frm (fun j => tw_bt (sm j) w) T k s' Z).2 → (∀ a, a ≠ 139 → a ≠ 157 → a ≠ 158 → a ≠ 159 → mi' a = mi a) → (∀ c, c ≠ 25 → mi' 139 c = mi 139 c) → Q (some (.int (tw_oi (tw_frm (fun j => tw_bt (sm j) w) T k s' Z).1))) tw_g0 mi' (tw_r0 t s i)) :
    tw_E sc (d + 1) 166 0 [some (.ref 139), some (.int w), some (.int (nI k)), some (.int (nI s')), none, none, none, none] [] tw_g0 mi (tw_r0 t s i) Q := by
  have hT := hC.1
  have h20 := hC.2.1
  have eb : ∀ x, x >>> (w &&& 31) &&& 1 = tw_bt x w := fun _ => rfl
  have e0 : nI k / nI 2 = nI (k / 2) := pk_div (by omega) (by omega) (by omega)
  have e1 : nI s' + nI (k / 2) = nI (s' + k / 2) := nI_add _ _
  have e2 : nI s' + nI 9 * nI k + nI (k / 2) = nI (s' + k / 2 + 9 * k) := by rw [pk_mul, nI_add, nI_add]; congr 1; omega
  simp only [tz_166_0, tz_166_1, tz_166_2, tz_166_3, tz_166_5, tz_166_6, tz_166_8, tz_166_9, tz_166_10, tz_166_13, tz_166_16, tz_166_18, tz_166_19, tz_166_20, tz_166_23, tz_166_24, tz_166_26, tz_166_27, tz_166_28, tz_166_29, tz_166_32, tz_166_33, tz_166_36, tz_166_37, tz_166_38, tz_166_40, tz_166_41, tz_166_43, tz_166_44, tz_166_47, tz_166_48, tz_166_50, tz_166_51, tz_166_52, tz_166_53, tz_166_55, tz_166_56, tz_166_58, tz_166_59, tz_166_60, tz_166_61, tz_166_63, tz_166_64, tz_166_66, tz_166_68, tz_166_69, tz_166_72, tz_166_75, tz_166_77, tz_166_78, tz_166_79, tz_166_83, tz_166_85, tz_166_88, tz_166_90, tz_166_91, tz_166_94, tz_166_95, tz_166_96, tz_166_98, tz_166_99, tz_166_100, tz_166_101, tz_166_102, tz_166_104, tz_166_105, tz_166_106, tz_166_107, tz_166_110, tz_166_112, tz_166_113, tz_166_114, tz_166_116, tz_166_119, tz_166_122, tz_166_123, tz_166_126, tz_166_128, tz_166_129, tz_166_130, tz_166_133, tz_166_136, tz_166_137, tz_166_138, tz_166_140, tz_166_142, tz_166_145, tz_166_148, tz_166_149, tz_166_150, tz_166_152, tz_166_153, tz_166_156, tz_166_158, tk_139, tq_139_1, tq_139_6, tq_139_7, tq_139_8, tq_139_9, tq_139_10, tq_139_12, tq_139_13, tq_139_14, tq_139_15, tq_139_16, tq_139_17, tq_139_18, tq_139_19, tq_139_21, tq_139_22, tq_139_24, tq_139_26, tq_139_27, tq_139_28, tq_139_34, tq_139_35, tq_139_36, tq_139_37, tw_va_s, tw_va_n, tw_K_s, tw_K_n, and_true, true_and, and_false, false_and, true_or, or_true, not_true_eq_false, not_false_eq_true, ↓reduceIte, Nat.reduceEqDiff, tl2, tl9, e0, e1, e2, h20]
  refine ⟨by decide, ?_⟩
  unfold tw_frm at hQ
  have rest : ¬ (s' + k / 2 < T ∧ tw_bt (sm (s' + k / 2)) w = 1) → s' + k / 2 < T → tw_E sc (d + 1) 166 66 [some (.ref 139), some (.int w), some (.int (nI k)), some (.int (nI s')), some (.int (nI (k / 2))), some (.int 0), some (.int (nI (s' + k / 2 + 9 * k))), none] [] tw_g0 mi (tw_r0 t s i) Q := by
    intro h1 _
    rw [if_neg h1] at hQ
    simp only [tz_166_0, tz_166_1, tz_166_2, tz_166_3, tz_166_5, tz_166_6, tz_166_8, tz_166_9, tz_166_10, tz_166_13, tz_166_16, tz_166_18, tz_166_19, tz_166_20, tz_166_23, tz_166_24, tz_166_26, tz_166_27, tz_166_28, tz_166_29, tz_166_32, tz_166_33, tz_166_36, tz_166_37, tz_166_38, tz_166_40, tz_166_41, tz_166_43, tz_166_44, tz_166_47, tz_166_48, tz_166_50, tz_166_51, tz_166_52, tz_166_53, tz_166_55, tz_166_56, tz_166_58, tz_166_59, tz_166_60, tz_166_61, tz_166_63, tz_166_64, tz_166_66, tz_166_68, tz_166_69, tz_166_72, tz_166_75, tz_166_77, tz_166_78, tz_166_79, tz_166_83, tz_166_85, tz_166_88, tz_166_90, tz_166_91, tz_166_94, tz_166_95, tz_166_96, tz_166_98, tz_166_99, tz_166_100, tz_166_101, tz_166_102, tz_166_104, tz_166_105, tz_166_106, tz_166_107, tz_166_110, tz_166_112, tz_166_113, tz_166_114, tz_166_116, tz_166_119, tz_166_122, tz_166_123, tz_166_126, tz_166_128, tz_166_129, tz_166_130, tz_166_133, tz_166_136, tz_166_137, tz_166_138, tz_166_140, tz_166_142, tz_166_145, tz_166_148, tz_166_149, tz_166_150, tz_166_152, tz_166_153, tz_166_156, tz_166_158, tk_139, tq_139_1, tq_139_6, tq_139_7, tq_139_8, tq_139_9, tq_139_10, tq_139_12, tq_139_13, tq_139_14, tq_139_15, tq_139_16, tq_139_17, tq_139_18, tq_139_19, tq_139_21, tq_139_22, tq_139_24, tq_139_26, tq_139_27, tq_139_28, tq_139_34, tq_139_35, tq_139_36, tq_139_37, tw_va_s, tw_va_n, tw_K_s, tw_K_n, and_true, true_and, and_false, false_and, true_or, or_true, not_true_eq_false, not_false_eq_true, ↓reduceIte, Nat.reduceEqDiff, h20]
    by_cases h2 : s' + k / 2 + 9 * k < T
    · rw [if_pos h2] at hQ
      rw [tw_lt_t h2 (by omega)]
      refine tw_q_vall (mi := mi) (w := w) (s' := s') hC hk (by omega) _ ?_ 8 0 rfl
      simp only [tz_166_0, tz_166_1, tz_166_2, tz_166_3, tz_166_5, tz_166_6, tz_166_8, tz_166_9, tz_166_10, tz_166_13, tz_166_16, tz_166_18, tz_166_19, tz_166_20, tz_166_23, tz_166_24, tz_166_26, tz_166_27, tz_166_28, tz_166_29, tz_166_32, tz_166_33, tz_166_36, tz_166_37, tz_166_38, tz_166_40, tz_166_41, tz_166_43, tz_166_44, tz_166_47, tz_166_48, tz_166_50, tz_166_51, tz_166_52, tz_166_53, tz_166_55, tz_166_56, tz_166_58, tz_166_59, tz_166_60, tz_166_61, tz_166_63, tz_166_64, tz_166_66, tz_166_68, tz_166_69, tz_166_72, tz_166_75, tz_166_77, tz_166_78, tz_166_79, tz_166_83, tz_166_85, tz_166_88, tz_166_90, tz_166_91, tz_166_94, tz_166_95, tz_166_96, tz_166_98, tz_166_99, tz_166_100, tz_166_101, tz_166_102, tz_166_104, tz_166_105, tz_166_106, tz_166_107, tz_166_110, tz_166_112, tz_166_113, tz_166_114, tz_166_116, tz_166_119, tz_166_122, tz_166_123, tz_166_126, tz_166_128, tz_166_129, tz_166_130, tz_166_133, tz_166_136, tz_166_137, tz_166_138, tz_166_140, tz_166_142, tz_166_145, tz_166_148, tz_166_149, tz_166_150, tz_166_152, tz_166_153, tz_166_156, tz_166_158, tz_146_0, tz_146_1, tz_146_2, tz_146_3, tz_146_4, tz_146_5, tk_139, tq_139_1, tq_139_6, tq_139_7, tq_139_8, tq_139_9, tq_139_10, tq_139_12, tq_139_13, tq_139_14, tq_139_15, tq_139_16, tq_139_17, tq_139_18, tq_139_19, tq_139_21, tq_139_22, tq_139_24, tq_139_26, tq_139_27, tq_139_28, tq_139_34, tq_139_35, tq_139_36, tq_139_37, tk_154, tj_154, tw_va_s, tw_va_n, tw_K_s, tw_K_n, and_true, true_and, and_false, false_and, true_or, or_true, not_true_eq_false, not_false_eq_true, ↓reduceIte, Nat.reduceEqDiff, nI_clamp (show s' + k / 2 + 9 * k < 2 ^ 31 by omega), vp_in_nI (show s' + k / 2 + 9 * k < 4000 by omega) (by omega), hC.2.2.1 (s' + k / 2 + 9 * k) h2, eb]
      by_cases h3 : tw_bt (sm (s' + k / 2 + 9 * k)) w = 1
      · rw [if_pos h3] at hQ
        simp only [h3, show ¬ (1 : Int32) = 0 by decide, not_false_eq_true, ↓reduceIte]
        refine tw_q_add hZ _ _ _ (fun mi' w1 w2 w3 => ?_)
        simp only [tz_166_0, tz_166_1, tz_166_2, tz_166_3, tz_166_5, tz_166_6, tz_166_8, tz_166_9, tz_166_10, tz_166_13, tz_166_16, tz_166_18, tz_166_19, tz_166_20, tz_166_23, tz_166_24, tz_166_26, tz_166_27, tz_166_28, tz_166_29, tz_166_32, tz_166_33, tz_166_36, tz_166_37, tz_166_38, tz_166_40, tz_166_41, tz_166_43, tz_166_44, tz_166_47, tz_166_48, tz_166_50, tz_166_51, tz_166_52, tz_166_53, tz_166_55, tz_166_56, tz_166_58, tz_166_59, tz_166_60, tz_166_61, tz_166_63, tz_166_64, tz_166_66, tz_166_68, tz_166_69, tz_166_72, tz_166_75, tz_166_77, tz_166_78, tz_166_79, tz_166_83, tz_166_85, tz_166_88, tz_166_90, tz_166_91, tz_166_94, tz_166_95, tz_166_96, tz_166_98, tz_166_99, tz_166_100, tz_166_101, tz_166_102, tz_166_104, tz_166_105, tz_166_106, tz_166_107, tz_166_110, tz_166_112, tz_166_113, tz_166_114, tz_166_116, tz_166_119, tz_166_122, tz_166_123, tz_166_126, tz_166_128, tz_166_129, tz_166_130, tz_166_133, tz_166_136, tz_166_137, tz_166_138, tz_166_140, tz_166_142, tz_166_145, tz_166_148, tz_166_149, tz_166_150, tz_166_152, tz_166_153, tz_166_156, tz_166_158, tw_va_s, tw_va_n, tw_K_s, tw_K_n, and_true, true_and, and_false, false_and, true_or, or_true, not_true_eq_false, not_false_eq_true, ↓reduceIte, Nat.reduceEqDiff]
        exact hQ mi' w1 w2 w3
      · have h4 := (tw_bt01 (sm (s' + k / 2 + 9 * k)) w).resolve_right h3
        rw [if_neg h3] at hQ
        simp only [h4, not_true_eq_false, ↓reduceIte]
        refine tw_q_add hZ _ _ _ (fun mi' w1 w2 w3 => ?_)
        simp only [tz_166_0, tz_166_1, tz_166_2, tz_166_3, tz_166_5, tz_166_6, tz_166_8, tz_166_9, tz_166_10, tz_166_13, tz_166_16, tz_166_18, tz_166_19, tz_166_20, tz_166_23, tz_166_24, tz_166_26, tz_166_27, tz_166_28, tz_166_29, tz_166_32, tz_166_33, tz_166_36, tz_166_37, tz_166_38, tz_166_40, tz_166_41, tz_166_43, tz_166_44, tz_166_47, tz_166_48, tz_166_50, tz_166_51, tz_166_52, tz_166_53, tz_166_55, tz_166_56, tz_166_58, tz_166_59, tz_166_60, tz_166_61, tz_166_63, tz_166_64, tz_166_66, tz_166_68, tz_166_69, tz_166_72, tz_166_75, tz_166_77, tz_166_78, tz_166_79, tz_166_83, tz_166_85, tz_166_88, tz_166_90, tz_166_91, tz_166_94, tz_166_95, tz_166_96, tz_166_98, tz_166_99, tz_166_100, tz_166_101, tz_166_102, tz_166_104, tz_166_105, tz_166_106, tz_166_107, tz_166_110, tz_166_112, tz_166_113, tz_166_114, tz_166_116, tz_166_119, tz_166_122, tz_166_123, tz_166_126, tz_166_128, tz_166_129, tz_166_130, tz_166_133, tz_166_136, tz_166_137, tz_166_138, tz_166_140, tz_166_142, tz_166_145, tz_166_148, tz_166_149, tz_166_150, tz_166_152, tz_166_153, tz_166_156, tz_166_158, tw_va_s, tw_va_n, tw_K_s, tw_K_n, and_true, true_and, and_false, false_and, true_or, or_true, not_true_eq_false, not_false_eq_true, ↓reduceIte, Nat.reduceEqDiff]
        exact hQ mi' w1 w2 w3
    · rw [if_neg h2] at hQ
      rw [tw_lt_f (by omega) (by omega)]
      exact hQ mi hZ (fun _ _ _ _ _ => rfl) (fun _ _ => rfl)
  by_cases hm : s' + k / 2 < T
  · rw [tw_lt_t hm (by omega)]
    simp only [tz_146_0, tz_146_1, tz_146_2, tz_146_3, tz_146_4, tz_146_5, tk_154, tj_154, tw_va_s, tw_va_n, tw_K_s, tw_K_n, and_true, true_and, and_false, false_and, true_or, or_true, not_true_eq_false, not_false_eq_true, ↓reduceIte, Nat.reduceEqDiff, nI_clamp (show s' + k / 2 < 2 ^ 31 by omega), vp_in_nI (show s' + k / 2 < 4000 by omega) (by omega), hC.2.2.1 (s' + k / 2) hm, eb]
    by_cases h1 : tw_bt (sm (s' + k / 2)) w = 1
    · rw [if_pos ⟨hm, h1⟩] at hQ
      simp only [tz_166_0, tz_166_1, tz_166_2, tz_166_3, tz_166_5, tz_166_6, tz_166_8, tz_166_9, tz_166_10, tz_166_13, tz_166_16, tz_166_18, tz_166_19, tz_166_20, tz_166_23, tz_166_24, tz_166_26, tz_166_27, tz_166_28, tz_166_29, tz_166_32, tz_166_33, tz_166_36, tz_166_37, tz_166_38, tz_166_40, tz_166_41, tz_166_43, tz_166_44, tz_166_47, tz_166_48, tz_166_50, tz_166_51, tz_166_52, tz_166_53, tz_166_55, tz_166_56, tz_166_58, tz_166_59, tz_166_60, tz_166_61, tz_166_63, tz_166_64, tz_166_66, tz_166_68, tz_166_69, tz_166_72, tz_166_75, tz_166_77, tz_166_78, tz_166_79, tz_166_83, tz_166_85, tz_166_88, tz_166_90, tz_166_91, tz_166_94, tz_166_95, tz_166_96, tz_166_98, tz_166_99, tz_166_100, tz_166_101, tz_166_102, tz_166_104, tz_166_105, tz_166_106, tz_166_107, tz_166_110, tz_166_112, tz_166_113, tz_166_114, tz_166_116, tz_166_119, tz_166_122, tz_166_123, tz_166_126, tz_166_128, tz_166_129, tz_166_130, tz_166_133, tz_166_136, tz_166_137, tz_166_138, tz_166_140, tz_166_142, tz_166_145, tz_166_148, tz_166_149, tz_166_150, tz_166_152, tz_166_153, tz_166_156, tz_166_158, tk_139, tq_139_1, tq_139_6, tq_139_7, tq_139_8, tq_139_9, tq_139_10, tq_139_12, tq_139_13, tq_139_14, tq_139_15, tq_139_16, tq_139_17, tq_139_18, tq_139_19, tq_139_21, tq_139_22, tq_139_24, tq_139_26, tq_139_27, tq_139_28, tq_139_34, tq_139_35, tq_139_36, tq_139_37, tw_va_s, tw_va_n, tw_K_s, tw_K_n, and_true, true_and, and_false, false_and, true_or, or_true, not_true_eq_false, not_false_eq_true, ↓reduceIte, Nat.reduceEqDiff, h1, e1]
      refine tw_q_add hZ _ _ _ (fun mi' w1 w2 w3 => ?_)
      simp only [tz_166_0, tz_166_1, tz_166_2, tz_166_3, tz_166_5, tz_166_6, tz_166_8, tz_166_9, tz_166_10, tz_166_13, tz_166_16, tz_166_18, tz_166_19, tz_166_20, tz_166_23, tz_166_24, tz_166_26, tz_166_27, tz_166_28, tz_166_29, tz_166_32, tz_166_33, tz_166_36, tz_166_37, tz_166_38, tz_166_40, tz_166_41, tz_166_43, tz_166_44, tz_166_47, tz_166_48, tz_166_50, tz_166_51, tz_166_52, tz_166_53, tz_166_55, tz_166_56, tz_166_58, tz_166_59, tz_166_60, tz_166_61, tz_166_63, tz_166_64, tz_166_66, tz_166_68, tz_166_69, tz_166_72, tz_166_75, tz_166_77, tz_166_78, tz_166_79, tz_166_83, tz_166_85, tz_166_88, tz_166_90, tz_166_91, tz_166_94, tz_166_95, tz_166_96, tz_166_98, tz_166_99, tz_166_100, tz_166_101, tz_166_102, tz_166_104, tz_166_105, tz_166_106, tz_166_107, tz_166_110, tz_166_112, tz_166_113, tz_166_114, tz_166_116, tz_166_119, tz_166_122, tz_166_123, tz_166_126, tz_166_128, tz_166_129, tz_166_130, tz_166_133, tz_166_136, tz_166_137, tz_166_138, tz_166_140, tz_166_142, tz_166_145, tz_166_148, tz_166_149, tz_166_150, tz_166_152, tz_166_153, tz_166_156, tz_166_158, tw_va_s, tw_va_n, tw_K_s, tw_K_n, and_true, true_and, and_false, false_and, true_or, or_true, not_true_eq_false, not_false_eq_true, ↓reduceIte, Nat.reduceEqDiff, e1]
      exact hQ mi' w1 w2 w3
    · have r := rest (fun z => h1 z.2) hm
      simp only [tz_166_0, tz_166_1, tz_166_2, tz_166_3, tz_166_5, tz_166_6, tz_166_8, tz_166_9, tz_166_10, tz_166_13, tz_166_16, tz_166_18, tz_166_19, tz_166_20, tz_166_23, tz_166_24, tz_166_26, tz_166_27, tz_166_28, tz_166_29, tz_166_32, tz_166_33, tz_166_36, tz_166_37, tz_166_38, tz_166_40, tz_166_41, tz_166_43, tz_166_44, tz_166_47, tz_166_48, tz_166_50, tz_166_51, tz_166_52, tz_166_53, tz_166_55, tz_166_56, tz_166_58, tz_166_59, tz_166_60, tz_166_61, tz_166_63, tz_166_64, tz_166_66, tz_166_68, tz_166_69, tz_166_72, tz_166_75, tz_166_77, tz_166_78, tz_166_79, tz_166_83, tz_166_85, tz_166_88, tz_166_90, tz_166_91, tz_166_94, tz_166_95, tz_166_96, tz_166_98, tz_166_99, tz_166_100, tz_166_101, tz_166_102, tz_166_104, tz_166_105, tz_166_106, tz_166_107, tz_166_110, tz_166_112, tz_166_113, tz_166_114, tz_166_116, tz_166_119, tz_166_122, tz_166_123, tz_166_126, tz_166_128, tz_166_129, tz_166_130, tz_166_133, tz_166_136, tz_166_137, tz_166_138, tz_166_140, tz_166_142, tz_166_145, tz_166_148, tz_166_149, tz_166_150, tz_166_152, tz_166_153, tz_166_156, tz_166_158, tk_139, tq_139_1, tq_139_6, tq_139_7, tq_139_8, tq_139_9, tq_139_10, tq_139_12, tq_139_13, tq_139_14, tq_139_15, tq_139_16, tq_139_17, tq_139_18, tq_139_19, tq_139_21, tq_139_22, tq_139_24, tq_139_26, tq_139_27, tq_139_28, tq_139_34, tq_139_35, tq_139_36, tq_139_37, tw_va_s, tw_va_n, tw_K_s, tw_K_n, and_true, true_and, and_false, false_and, true_or, or_true, not_true_eq_false, not_false_eq_true, ↓reduceIte, Nat.reduceEqDiff, h20] at r
      simp only [tz_166_0, tz_166_1, tz_166_2, tz_166_3, tz_166_5, tz_166_6, tz_166_8, tz_166_9, tz_166_10, tz_166_13, tz_166_16, tz_166_18, tz_166_19, tz_166_20, tz_166_23, tz_166_24, tz_166_26, tz_166_27, tz_166_28, tz_166_29, tz_166_32, tz_166_33, tz_166_36, tz_166_37, tz_166_38, tz_166_40, tz_166_41, tz_166_43, tz_166_44, tz_166_47, tz_166_48, tz_166_50, tz_166_51, tz_166_52, tz_166_53, tz_166_55, tz_166_56, tz_166_58, tz_166_59, tz_166_60, tz_166_61, tz_166_63, tz_166_64, tz_166_66, tz_166_68, tz_166_69, tz_166_72, tz_166_75, tz_166_77, tz_166_78, tz_166_79, tz_166_83, tz_166_85, tz_166_88, tz_166_90, tz_166_91, tz_166_94, tz_166_95, tz_166_96, tz_166_98, tz_166_99, tz_166_100, tz_166_101, tz_166_102, tz_166_104, tz_166_105, tz_166_106, tz_166_107, tz_166_110, tz_166_112, tz_166_113, tz_166_114, tz_166_116, tz_166_119, tz_166_122, tz_166_123, tz_166_126, tz_166_128, tz_166_129, tz_166_130, tz_166_133, tz_166_136, tz_166_137, tz_166_138, tz_166_140, tz_166_142, tz_166_145, tz_166_148, tz_166_149, tz_166_150, tz_166_152, tz_166_153, tz_166_156, tz_166_158, tk_139, tq_139_1, tq_139_6, tq_139_7, tq_139_8, tq_139_9, tq_139_10, tq_139_12, tq_139_13, tq_139_14, tq_139_15, tq_139_16, tq_139_17, tq_139_18, tq_139_19, tq_139_21, tq_139_22, tq_139_24, tq_139_26, tq_139_27, tq_139_28, tq_139_34, tq_139_35, tq_139_36, tq_139_37, tw_va_s, tw_va_n, tw_K_s, tw_K_n, and_true, true_and, and_false, false_and, true_or, or_true, not_true_eq_false, not_false_eq_true, ↓reduceIte, Nat.reduceEqDiff, h1, e2, h20, tl9]
      exact r
  · rw [tw_lt_f (by omega) (by omega)]
    rw [if_neg (fun z => hm z.1), if_neg (by omega)] at hQ
    exact hQ mi hZ (fun _ _ _ _ _ => rfl) (fun _ _ => rfl)
set_option maxRecDepth 100000 in
theorem tw_q_frl {w : Int32} (hk : k ≤ 20) (hT : T ≤ 4000) : ∀ n t' Z (mi : tw_I) (x4 : Option Value), T - t' ≤ n → t' ≤ 4000 → tw_Mh mi T sm hd → tw_MK mi Z →
    (∀ mi', tw_MK mi' (tw_FR (fun j => tw_bt (sm j) w) T k t' Z) → (∀ a, a ≠ 139 → a ≠ 157 → a ≠ 158 → a ≠ 159 → mi' a = mi a) → (∀ c, c ≠ 25 → mi' 139 c = mi 139 c) → Q (some (.int (nI (tw_FR (fun j => tw_bt (sm j) w) T k t' Z).1))) tw_g0 mi' (tw_r0 t s i)) →
    tw_E sc (d + 2) 167 41 [some (.ref 139), some (.int w), some (.int (nI k)), some (.int (nI t')), x4] [] tw_g0 mi (tw_r0 t s i) Q := by
  intro n
  have fin : ∀ t' Z (mi : tw_I) (x4 : Option Value), T ≤ t' → t' ≤ 4000 → tw_Mh mi T sm hd → tw_MK mi Z → Q (some (.int (nI Z.1))) tw_g0 mi (tw_r0 t s i) → tw_E sc (d + 2) 167 41 [some (.ref 139), some (.int w), some (.int (nI k)), some (.int (nI t')), x4] [] tw_g0 mi (tw_r0 t s i) Q := by
    intro t' Z mi x4 h1 h4 hC hZ hq
    rw [tz_167_41]
    simp only [tz_167_0, tz_167_1, tz_167_2, tz_167_5, tz_167_6, tz_167_7, tz_167_8, tz_167_11, tz_167_14, tz_167_17, tz_167_18, tz_167_19, tz_167_20, tz_167_21, tz_167_22, tz_167_25, tz_167_28, tz_167_31, tz_167_33, tz_167_34, tz_167_35, tz_167_36, tz_167_39, tz_167_40, tz_167_42, tz_167_43, tz_167_46, tz_167_49, tz_167_50, tz_167_53, tz_167_56, tz_167_59, tz_167_60, tz_167_61, tz_167_62, tz_167_65, tz_167_68, tz_167_69, tz_167_70, tz_167_71, tz_167_72, tz_167_75, tz_167_77, tz_167_79, tz_167_81, tz_167_84, tz_167_85, tz_167_88, tz_167_91, tz_167_93, tz_167_94, tz_167_95, tz_167_96, tz_167_99, tz_167_102, tz_167_105, tz_167_106, tz_167_109, tk_139, tq_139_1, tq_139_6, tq_139_7, tq_139_8, tq_139_9, tq_139_10, tq_139_12, tq_139_13, tq_139_14, tq_139_15, tq_139_16, tq_139_17, tq_139_18, tq_139_19, tq_139_21, tq_139_22, tq_139_24, tq_139_26, tq_139_27, tq_139_28, tq_139_34, tq_139_35, tq_139_36, tq_139_37, tw_va_s, tw_va_n, tw_K_s, tw_K_n, and_true, true_and, and_false, false_and, true_or, or_true, not_true_eq_false, not_false_eq_true, ↓reduceIte, Nat.reduceEqDiff, hC.2.1, hZ.2.1]
    rw [tw_le_t (by omega) (by omega)]
    exact hq
  induction n with
  | zero =>
    intro t' Z mi x4 hn h4 hC hZ hQ
    rw [tw_FR_eq, if_neg (by omega)] at hQ
    exact fin t' Z mi x4 (by omega) h4 hC hZ (hQ mi hZ (fun _ _ _ _ _ => rfl) (fun _ _ => rfl))
  | succ n ih =>
    intro t' Z mi x4 hn h4 hC hZ hQ
    by_cases ht : t' < T
    · have hz4 := hZ.1
      rw [tw_FR_eq] at hQ
      rw [tz_167_41]
      simp only [tz_167_0, tz_167_1, tz_167_2, tz_167_5, tz_167_6, tz_167_7, tz_167_8, tz_167_11, tz_167_14, tz_167_17, tz_167_18, tz_167_19, tz_167_20, tz_167_21, tz_167_22, tz_167_25, tz_167_28, tz_167_31, tz_167_33, tz_167_34, tz_167_35, tz_167_36, tz_167_39, tz_167_40, tz_167_42, tz_167_43, tz_167_46, tz_167_49, tz_167_50, tz_167_53, tz_167_56, tz_167_59, tz_167_60, tz_167_61, tz_167_62, tz_167_65, tz_167_68, tz_167_69, tz_167_70, tz_167_71, tz_167_72, tz_167_75, tz_167_77, tz_167_79, tz_167_81, tz_167_84, tz_167_85, tz_167_88, tz_167_91, tz_167_93, tz_167_94, tz_167_95, tz_167_96, tz_167_99, tz_167_102, tz_167_105, tz_167_106, tz_167_109, tk_139, tq_139_1, tq_139_6, tq_139_7, tq_139_8, tq_139_9, tq_139_10, tq_139_12, tq_139_13, tq_139_14, tq_139_15, tq_139_16, tq_139_17, tq_139_18, tq_139_19, tq_139_21, tq_139_22, tq_139_24, tq_139_26, tq_139_27, tq_139_28, tq_139_34, tq_139_35, tq_139_36, tq_139_37, tw_va_s, tw_va_n, tw_K_s, tw_K_n, and_true, true_and, and_false, false_and, true_or, or_true, not_true_eq_false, not_false_eq_true, ↓reduceIte, Nat.reduceEqDiff, hC.2.1, hZ.2.1]
      rw [tw_le_f (by omega) (by omega)]
      by_cases h5 : Z.1 < 400
      · have c2 : ¬ (400 : Int32) ≤ nI Z.1 := nI_ge (b := 400) h5 (by omega)
        rw [if_pos ⟨ht, h5⟩] at hQ
        rw [if_neg c2, tw_q_beg hC ht]
        by_cases hb : tw_beg (fun j => tw_bt (sm j) w) t'
        · rw [if_pos hb] at hQ
          rw [if_pos hb]
          simp only [tz_167_0, tz_167_1, tz_167_2, tz_167_5, tz_167_6, tz_167_7, tz_167_8, tz_167_11, tz_167_14, tz_167_17, tz_167_18, tz_167_19, tz_167_20, tz_167_21, tz_167_22, tz_167_25, tz_167_28, tz_167_31, tz_167_33, tz_167_34, tz_167_35, tz_167_36, tz_167_39, tz_167_40, tz_167_42, tz_167_43, tz_167_46, tz_167_49, tz_167_50, tz_167_53, tz_167_56, tz_167_59, tz_167_60, tz_167_61, tz_167_62, tz_167_65, tz_167_68, tz_167_69, tz_167_70, tz_167_71, tz_167_72, tz_167_75, tz_167_77, tz_167_79, tz_167_81, tz_167_84, tz_167_85, tz_167_88, tz_167_91, tz_167_93, tz_167_94, tz_167_95, tz_167_96, tz_167_99, tz_167_102, tz_167_105, tz_167_106, tz_167_109, tk_139, tq_139_1, tq_139_6, tq_139_7, tq_139_8, tq_139_9, tq_139_10, tq_139_12, tq_139_13, tq_139_14, tq_139_15, tq_139_16, tq_139_17, tq_139_18, tq_139_19, tq_139_21, tq_139_22, tq_139_24, tq_139_26, tq_139_27, tq_139_28, tq_139_34, tq_139_35, tq_139_36, tq_139_37, tw_va_s, tw_va_n, tw_K_s, tw_K_n, and_true, true_and, and_false, false_and, true_or, or_true, not_true_eq_false, not_false_eq_true, ↓reduceIte, Nat.reduceEqDiff, show ¬ (1 : Int32) = 0 by decide]
          refine tw_q_frm hC hZ hk (by omega) (fun mi' w1 w2 w3 => ?_)
          have hC2 := tw_Mh_fr2 hC w2 w3
          cases hr : (tw_frm (fun j => tw_bt (sm j) w) T k t' Z).1 with
          | none =>
            simp only [hr] at hQ
            simp only [tz_167_0, tz_167_1, tz_167_2, tz_167_5, tz_167_6, tz_167_7, tz_167_8, tz_167_11, tz_167_14, tz_167_17, tz_167_18, tz_167_19, tz_167_20, tz_167_21, tz_167_22, tz_167_25, tz_167_28, tz_167_31, tz_167_33, tz_167_34, tz_167_35, tz_167_36, tz_167_39, tz_167_40, tz_167_42, tz_167_43, tz_167_46, tz_167_49, tz_167_50, tz_167_53, tz_167_56, tz_167_59, tz_167_60, tz_167_61, tz_167_62, tz_167_65, tz_167_68, tz_167_69, tz_167_70, tz_167_71, tz_167_72, tz_167_75, tz_167_77, tz_167_79, tz_167_81, tz_167_84, tz_167_85, tz_167_88, tz_167_91, tz_167_93, tz_167_94, tz_167_95, tz_167_96, tz_167_99, tz_167_102, tz_167_105, tz_167_106, tz_167_109, tk_139, tq_139_1, tq_139_6, tq_139_7, tq_139_8, tq_139_9, tq_139_10, tq_139_12, tq_139_13, tq_139_14, tq_139_15, tq_139_16, tq_139_17, tq_139_18, tq_139_19, tq_139_21, tq_139_22, tq_139_24, tq_139_26, tq_139_27, tq_139_28, tq_139_34, tq_139_35, tq_139_36, tq_139_37, tw_va_s, tw_va_n, tw_K_s, tw_K_n, and_true, true_and, and_false, false_and, true_or, or_true, not_true_eq_false, not_false_eq_true, ↓reduceIte, Nat.reduceEqDiff, tw_oi_n, hC2.2.1]
            exact fin T _ mi' _ (Nat.le_refl _) hT hC2 w1 (hQ mi' w1 w2 w3)
          | some l =>
            obtain ⟨l1, l2⟩ := tw_frm_l hr
            simp only [hr] at hQ
            simp only [tz_167_0, tz_167_1, tz_167_2, tz_167_5, tz_167_6, tz_167_7, tz_167_8, tz_167_11, tz_167_14, tz_167_17, tz_167_18, tz_167_19, tz_167_20, tz_167_21, tz_167_22, tz_167_25, tz_167_28, tz_167_31, tz_167_33, tz_167_34, tz_167_35, tz_167_36, tz_167_39, tz_167_40, tz_167_42, tz_167_43, tz_167_46, tz_167_49, tz_167_50, tz_167_53, tz_167_56, tz_167_59, tz_167_60, tz_167_61, tz_167_62, tz_167_65, tz_167_68, tz_167_69, tz_167_70, tz_167_71, tz_167_72, tz_167_75, tz_167_77, tz_167_79, tz_167_81, tz_167_84, tz_167_85, tz_167_88, tz_167_91, tz_167_93, tz_167_94, tz_167_95, tz_167_96, tz_167_99, tz_167_102, tz_167_105, tz_167_106, tz_167_109, tk_139, tq_139_1, tq_139_6, tq_139_7, tq_139_8, tq_139_9, tq_139_10, tq_139_12, tq_139_13, tq_139_14, tq_139_15, tq_139_16, tq_139_17, tq_139_18, tq_139_19, tq_139_21, tq_139_22, tq_139_24, tq_139_26, tq_139_27, tq_139_28, tq_139_34, tq_139_35, tq_139_36, tq_139_37, tw_va_s, tw_va_n, tw_K_s, tw_K_n, and_true, true_and, and_false, false_and, true_or, or_true, not_true_eq_false, not_false_eq_true, ↓reduceIte, Nat.reduceEqDiff, tw_oi_s, nI_1, tw_ni9 (show l < 2 ^ 31 by omega)]
            exact ih (l + 1) _ mi' _ (by omega) (by omega) hC2 w1 (fun mi2 r1 r2 r3 => hQ mi2 r1 (fun a g1 g2 g3 g4 => by rw [r2 a g1 g2 g3 g4, w2 a g1 g2 g3 g4]) (fun c hc => by rw [r3 c hc, w3 c hc]))
        · rw [if_neg hb] at hQ
          rw [if_neg hb]
          simp only [tz_167_0, tz_167_1, tz_167_2, tz_167_5, tz_167_6, tz_167_7, tz_167_8, tz_167_11, tz_167_14, tz_167_17, tz_167_18, tz_167_19, tz_167_20, tz_167_21, tz_167_22, tz_167_25, tz_167_28, tz_167_31, tz_167_33, tz_167_34, tz_167_35, tz_167_36, tz_167_39, tz_167_40, tz_167_42, tz_167_43, tz_167_46, tz_167_49, tz_167_50, tz_167_53, tz_167_56, tz_167_59, tz_167_60, tz_167_61, tz_167_62, tz_167_65, tz_167_68, tz_167_69, tz_167_70, tz_167_71, tz_167_72, tz_167_75, tz_167_77, tz_167_79, tz_167_81, tz_167_84, tz_167_85, tz_167_88, tz_167_91, tz_167_93, tz_167_94, tz_167_95, tz_167_96, tz_167_99, tz_167_102, tz_167_105, tz_167_106, tz_167_109, tw_va_s, tw_va_n, tw_K_s, tw_K_n, and_true, true_and, and_false, false_and, true_or, or_true, not_true_eq_false, not_false_eq_true, ↓reduceIte, Nat.reduceEqDiff, nI_1]
          exact ih (t' + 1) Z mi _ (by omega) (by omega) hC hZ hQ
      · have c2 : (400 : Int32) ≤ nI Z.1 := nI_le (a := 400) (by omega) (by omega)
        rw [if_neg (fun z => h5 z.2)] at hQ
        rw [if_pos c2]
        exact hQ mi hZ (fun _ _ _ _ _ => rfl) (fun _ _ => rfl)
    · rw [tw_FR_eq, if_neg (fun z => ht z.1)] at hQ
      exact fin t' Z mi x4 (by omega) h4 hC hZ (hQ mi hZ (fun _ _ _ _ _ => rfl) (fun _ _ => rfl))
set_option maxRecDepth 100000 in
theorem tw_q_frames (hC : tw_Mh mi T sm hd) (hZ : tw_MK mi Z) {S : tw_Hs} (hS : S.1 = T ∧ S.2.1 = sm) (w k : Int32)
    (hQ : ∀ mi', tw_MK mi' (tw_frq S Z w k).1 → (∀ a, a ≠ 139 → a ≠ 157 → a ≠ 158 → a ≠ 159 → mi' a = mi a) → (∀ c, c ≠ 0 → c ≠ 25 → mi' 139 c = mi 139 c) → Q (some (.int (tw_frq S Z w k).2)) tw_g0 mi' (tw_r0 t s i)) :
    tw_E sc (d + 2) 167 0 [some (.ref 139), some (.int w), some (.int k), none, none] [] tw_g0 mi (tw_r0 t s i) Q := by
  have hT := hC.1
  obtain ⟨hS1, hS2⟩ := hS
  have hthm : tw_MK (tw_th mi) Z := by
    unfold tw_MK tw_Mm at hZ ⊢
    rw [tw_th_x mi (by decide), tw_th_a mi (by decide), tw_th_a mi (by decide), tw_th_a mi (by decide)]
    exact hZ
  have hq0 : ∀ r, tw_frq S Z w k = (Z, r) → Q (some (.int r)) tw_g0 (tw_th mi) (tw_r0 t s i) := by
    intro r e
    rw [e] at hQ
    exact hQ _ hthm (fun a a1 _ _ _ => tw_th_a mi a1) (fun c c1 _ => tw_th_x mi c1)
  rw [tz_167_0, tz_167_1, tz_167_2]
  refine ⟨tk_139, ?_⟩
  rw [show tw_st mi 139 (tw_st (mi 139) 0 0) = tw_th mi from rfl]
  simp only [tz_167_0, tz_167_1, tz_167_2, tz_167_5, tz_167_6, tz_167_7, tz_167_8, tz_167_11, tz_167_14, tz_167_17, tz_167_18, tz_167_19, tz_167_20, tz_167_21, tz_167_22, tz_167_25, tz_167_28, tz_167_31, tz_167_33, tz_167_34, tz_167_35, tz_167_36, tz_167_39, tz_167_40, tz_167_42, tz_167_43, tz_167_46, tz_167_49, tz_167_50, tz_167_53, tz_167_56, tz_167_59, tz_167_60, tz_167_61, tz_167_62, tz_167_65, tz_167_68, tz_167_69, tz_167_70, tz_167_71, tz_167_72, tz_167_75, tz_167_77, tz_167_79, tz_167_81, tz_167_84, tz_167_85, tz_167_88, tz_167_91, tz_167_93, tz_167_94, tz_167_95, tz_167_96, tz_167_99, tz_167_102, tz_167_105, tz_167_106, tz_167_109, tk_139, tq_139_1, tq_139_6, tq_139_7, tq_139_8, tq_139_9, tq_139_10, tq_139_12, tq_139_13, tq_139_14, tq_139_15, tq_139_16, tq_139_17, tq_139_18, tq_139_19, tq_139_21, tq_139_22, tq_139_24, tq_139_26, tq_139_27, tq_139_28, tq_139_34, tq_139_35, tq_139_36, tq_139_37, tw_va_s, tw_va_n, tw_K_s, tw_K_n, and_true, true_and, and_false, false_and, true_or, or_true, not_true_eq_false, not_false_eq_true, ↓reduceIte, Nat.reduceEqDiff, tw_L0, tw_L1, tw_L15, tw_L20, tw_q_in, tw_b0]
  by_cases h1 : 0 ≤ w ∧ w ≤ 15
  · simp only [h1, and_self, not_true_eq_false, not_false_eq_true, ↓reduceIte]
    by_cases h2 : 1 ≤ k ∧ k ≤ 20
    · have e : tw_frq S Z w k = (tw_FR (fun j => tw_bt (S.2.1 j) w) S.1 k.toNatClampNeg 0 (0, Z.2), nI (tw_FR (fun j => tw_bt (S.2.1 j) w) S.1 k.toNatClampNeg 0 (0, Z.2)).1) := by unfold tw_frq; rw [if_pos h1, if_pos h2]
      rw [e, hS1, hS2] at hQ
      obtain ⟨q, k0, k1, rfl⟩ := tw_rng (lo := 1) (hi := 20) (by omega) (by omega) h2.1 h2.2
      rw [nI_clamp (by omega)] at hQ
      simp only [h2, and_self, not_true_eq_false, not_false_eq_true, ↓reduceIte]
      have hC2 : tw_Mh (tw_st (tw_th mi) 139 (tw_st (tw_th mi 139) 25 0)) T sm hd := by
        unfold tw_Mh at hC ⊢
        rw [tw_st_s, tw_st_n _ _ (by decide), tw_st_n _ _ (by decide), tw_st_n _ _ (by decide), tw_th_x mi (by decide), tw_th_a mi (by decide), tw_th_a mi (by decide)]
        exact hC
      have hZ2 : tw_MK (tw_st (tw_th mi) 139 (tw_st (tw_th mi 139) 25 0)) (0, Z.2) := ⟨by show 0 ≤ 400; omega, by rw [tw_st_s, tw_st_s]; rfl, fun j hj => absurd hj (Nat.not_lt_zero j)⟩
      refine tw_q_frl (by omega) hT T 0 (0, Z.2) _ none (by omega) (by omega) hC2 hZ2 (fun mi' w1 w2 w3 => hQ mi' w1 (fun a a1 a2 a3 a4 => by rw [w2 a a1 a2 a3 a4, tw_st_n _ _ a1, tw_th_a mi a1]) (fun c c1 c2 => by rw [w3 c c2, tw_st_s, tw_st_n _ _ c2, tw_th_x mi c1]))
    · have hq := hq0 (-2) (by unfold tw_frq; rw [if_pos h1, if_neg h2])
      simp only [h2, not_true_eq_false, not_false_eq_true, ↓reduceIte]; exact hq
  · have hq := hq0 (-1) (by unfold tw_frq; rw [if_neg h1])
    simp only [h1, not_true_eq_false, not_false_eq_true, ↓reduceIte]; exact hq
end tw_mframes
