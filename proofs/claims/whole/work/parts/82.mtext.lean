/-! the reference reads as the descent does: one, the text -/
section tw_mtext
variable {sc : Nat × (Nat → Int32)} {d t s' i n p0 D : Nat} {mi mi0 : tw_I} {Q : Option Value → tw_G → tw_I → tw_Q → Prop} {tp : Nat → Nat} {s : tx_S} {K : tx_K}
set_option maxRecDepth 100000 in
theorem tx_w_cnt {f : Nat} (hs : s.1 ≤ n) (hv : tx_va s) (ih : tx_W1 sc d Q mi0 n tp t s' i (D + 1) (n + 1 - f) (tx_one n tp f (D + 1))) (hD : tx_dp K = D) (hp : n - f ≤ s.1) (ht : tx_to n tp s.1 = 256) (h42 : tx_to n tp (tx_ad n tp s).1 = 42)
    (hG : tx_go (tx_FF Q mi0 t s' i) (tx_PB sc d Q mi0 n tp t s' i K) (tx_cnt n tp (tx_one n tp f (D + 1)) s)) : tx_PA sc d Q mi0 n tp t s' i ((2, -9, nI (tx_nu n tp s.1), -9) :: K) (tx_ad n tp (tx_ad n tp s)) := by
  have l1 := tx_en_lt (tp := tp) hs (by omega)
  have l2 := tx_en_le (tp := tp) hs
  have l3 := tx_en_le (tp := tp) l2.2.1
  have l4 := tx_pl_le (tp := tp) l2.2.1
  unfold tx_cnt at hG
  rw [if_pos (show tx_to n tp (tx_en n tp s.1) = 42 from h42)] at hG
  refine ih _ _ ?_ (by show n + 1 - f ≤ tx_en n tp (tx_en n tp s.1); omega) l3.2.1 hv ?_
  · simp only [tx_dp, show (2 : Nat) < 3 by decide, ↓reduceIte, hD, Nat.add_comm]
  · cases hr : tx_one n tp f (D + 1) (tx_ad n tp (tx_ad n tp s)) with
    | inl e => rw [hr] at hG; exact hG
    | inr q =>
      obtain ⟨r, s2⟩ := q
      rw [hr] at hG
      exact tx_q_B2 hG
set_option maxRecDepth 100000 in
theorem tx_w_one (hb : ∀ j, j < n → tp j < 256) (hn : n ≤ 60) : ∀ f D, D ≤ 10 → tx_W1 sc d Q mi0 n tp t s' i D (n + 1 - f) (tx_one n tp f D) ∧ tx_W2 sc d Q mi0 n tp t s' i D (n + 1 - f) (tx_one n tp f D) := by
  intro f
  induction f with
  | zero =>
    intro D hD
    exact ⟨fun K s h1 h2 h3 => by omega, fun K s h1 h2 h3 => by omega⟩
  | succ f ih =>
    intro D hD
    refine ⟨fun K s hK hp hs hv hG => ?_, fun K s hK hp hs hv ht h42 hG => ?_⟩
    · rw [tx_one_eq] at hG
      have l2 := tx_en_le (tp := tp) hs
      have l0 := tx_pl_le (tp := tp) hs
      by_cases hw : 97 ≤ tx_to n tp s.1 ∧ tx_to n tp s.1 ≤ 112
      · rw [if_pos hw] at hG
        refine tx_q_wire hb hw (fun r s2 e => ?_)
        rw [e] at hG
        exact hG
      · rw [if_neg hw] at hG
        by_cases h10 : 10 ≤ D
        · rw [if_pos h10] at hG
          exact tx_q_bad hb hw (Or.inl (by omega)) hG
        · rw [if_neg h10] at hG
          by_cases c1 : tx_to n tp s.1 = 256
          · rw [if_pos c1] at hG
            refine tx_q_num hb c1 (by omega) (fun h => tx_w_cnt hs hv (ih (D + 1) (by omega)).1 hK (by omega) c1 h hG) (fun h => ?_)
            unfold tx_cnt at hG
            rw [if_neg (show ¬ tx_to n tp (tx_en n tp s.1) = 42 from h)] at hG
            exact hG
          · rw [if_neg c1] at hG
            have l1 : ¬ tx_to n tp s.1 = 257 → s.1 < tx_en n tp s.1 := fun h => tx_en_lt (tp := tp) hs h
            by_cases c2 : tx_to n tp s.1 = 33
            · rw [if_pos c2] at hG
              have l1 := l1 (by omega)
              refine tx_q_pre hb (Or.inl ⟨rfl, c2⟩) (by omega) ((ih (D + 1) (by omega)).1 _ (tx_ad n tp s) ?_ (by show n + 1 - f ≤ tx_en n tp s.1; omega) l2.2.1 hv ?_)
              · simp only [tx_dp, show (1 : Nat) < 3 by decide, ↓reduceIte, hK, Nat.add_comm]
              · unfold tx_non at hG
                cases hr : tx_one n tp f (D + 1) (tx_ad n tp s) with
                | inl e => rw [hr] at hG; exact hG
                | inr q =>
                  obtain ⟨r, s2⟩ := q
                  rw [hr] at hG
                  exact tx_q_B1 hG
            · rw [if_neg c2] at hG
              by_cases c3 : tx_to n tp s.1 = 40
              · rw [if_pos c3] at hG
                have l1 := l1 (by omega)
                have hK' : tx_dp ((0, -9, -9, -9) :: K) = D + 1 := by simp only [tx_dp, show (0 : Nat) < 3 by decide, ↓reduceIte, hK, Nat.add_comm]
                refine tx_q_pre hb (Or.inr ⟨rfl, c3⟩) (by omega) ?_
                refine tx_w_row hb hn (tx_one_gd hb f (D + 1)) (ih (D + 1) (by omega)).1 (ih (D + 1) (by omega)).2 hK' (tx_nt_c (by decide)) (tx_nt_c (by decide)) (tx_nt_c (by decide)) (tx_nt_c (by decide)) (tx_nt_c (by decide)) (by show n + 1 - f ≤ tx_en n tp s.1; omega) l2.2.1 hv ?_
                unfold tx_wth at hG
                cases hr : tx_row n tp (tx_one n tp f (D + 1)) (tx_ad n tp s) with
                | inl e => rw [hr] at hG; exact hG
                | inr q =>
                  obtain ⟨r, s2⟩ := q
                  rw [hr] at hG
                  by_cases c41 : tx_to n tp s2.1 = 41
                  · simp only [c41, ↓reduceIte] at hG
                    exact tx_q_41 hb c41 hG
                  · simp only [c41, ↓reduceIte] at hG
                    exact tx_q_last hb (Or.inr c41) (Or.inl (by intro z; cases z)) hG
              · rw [if_neg c3] at hG
                exact tx_q_bad hb hw (Or.inr ⟨c1, c2, c3⟩) hG
    · rw [tx_one_eq, if_neg (by omega)] at hG
      refine ⟨fun hd => ?_, fun hd => ?_⟩
      · rw [if_pos (by omega)] at hG
        exact hG
      · rw [if_neg (by omega), if_pos ht] at hG
        exact tx_w_cnt hs hv (ih (D + 1) (by omega)).1 hK (by omega) ht h42 hG
set_option maxRecDepth 100000 in
/-- the whole text, from its first token on -/
theorem tx_w_text (hb : ∀ j, j < n → tp j < 256) (hn : n ≤ 60) (hG : tx_go (tx_FF Q mi0 t s' i) (fun _ s => ∀ mi, tx_MR mi0 mi n tp (-9) [] s → Q none tw_g0 mi (tw_r0 t s' i)) (tx_read n tp)) : tx_PA sc d Q mi0 n tp t s' i [] tx_s0 := by
  have h := tx_w_one (sc := sc) (d := d) (Q := Q) (mi0 := mi0) (t := t) (s' := s') (i := i) (tp := tp) hb hn 62 0 (by omega)
  have nt : ∀ w, tx_nt [] w := fun w q K' e => by cases e
  refine tx_w_row hb hn (tx_one_gd hb 62 0) h.1 h.2 rfl (nt 1) (nt 2) (nt 3) (nt 4) (nt 5) (by show n + 1 - 62 ≤ 0; omega) (Nat.zero_le _) (fun k hk => absurd hk (Nat.not_lt_zero k)) ?_
  have hrd : tx_read n tp = match tx_row n tp (tx_one n tp 62 0) tx_s0 with
    | .inl e => .inl e
    | .inr (r, s) => if tx_to n tp s.1 = 257 then .inr (r, s) else .inl (tx_pl n tp s.1) := rfl
  cases hr : tx_row n tp (tx_one n tp 62 0) tx_s0 with
  | inl e =>
    rw [hr] at hrd
    simp only at hrd
    rw [hrd] at hG
    exact hG
  | inr q =>
    obtain ⟨r, s⟩ := q
    rw [hr] at hrd
    simp only at hrd
    by_cases c : tx_to n tp s.1 = 257
    · rw [if_pos c] at hrd
      rw [hrd] at hG
      exact tx_q_end hb c hG
    · rw [if_neg c] at hrd
      rw [hrd] at hG
      exact tx_q_last hb (Or.inl (nt 0)) (Or.inr c) hG
set_option maxRecDepth 100000 in
/-- parse -/
theorem tx_q_parse (hb : ∀ j, j < n → tp j < 256) (hT : tw_Mt mi n tp) (hG : tx_go (tx_FF Q mi t s' i) (fun _ s => ∀ mi', tx_MR mi mi' n tp (-9) [] s → Q none tw_g0 mi' (tw_r0 t s' i)) (tx_read n tp)) : tw_E sc (d + 4) 140 0 [some (.ref 139), none, none, none] [] tw_g0 mi (tw_r0 t s' i) Q := by
  obtain ⟨hn, t2, t3⟩ := hT
  have h := tx_w_text (sc := sc) (d := d) hb hn hG
  simp only [tz_140_0, tz_140_1, tz_140_2, tz_140_5, tz_140_6, tz_140_7, tz_140_10, tz_140_11, tz_140_12, tz_140_15, tz_140_16, tz_140_17, tz_140_20, tz_140_21, tz_140_23, tz_140_26, tz_140_27, tz_140_29, tz_140_32, tz_140_33, tz_140_36, tz_140_37, tz_140_39, tz_140_42, tz_140_43, tz_140_46, tz_140_48, tz_140_51, tz_140_52, tz_140_55, tz_140_56, tz_140_57, tz_140_60, tz_140_62, tz_140_65, tz_140_66, tz_140_69, tz_140_70, tz_140_72, tz_140_75, tz_140_76, tz_140_77, tz_140_80, tz_140_81, tz_140_82, tz_140_83, tz_140_84, tz_140_86, tz_140_89, tz_140_92, tz_140_93, tz_140_94, tz_140_95, tz_140_97, tz_140_99, tz_140_102, tz_140_103, tz_140_106, tz_140_109, tz_140_110, tz_140_111, tz_140_114, tz_140_117, tz_140_118, tz_140_119, tz_140_122, tz_140_123, tz_140_124, tz_140_127, tz_140_128, tz_140_129, tz_140_130, tz_140_133, tz_140_134, tz_140_137, tz_140_138, tz_140_139, tz_140_141, tz_140_143, tz_140_146, tz_140_147, tz_140_148, tz_140_150, tz_140_153, tz_140_156, tz_140_157, tz_140_158, tz_140_159, tz_140_161, tz_140_163, tz_140_166, tz_140_167, tz_140_170, tz_140_173, tz_140_174, tz_140_175, tz_140_178, tz_140_181, tz_140_182, tz_140_183, tz_140_186, tz_140_187, tz_140_188, tz_140_191, tz_140_192, tz_140_193, tz_140_196, tz_140_197, tz_140_200, tz_140_201, tz_140_203, tz_140_206, tz_140_208, tz_140_211, tz_140_213, tz_140_214, tz_140_217, tz_140_218, tz_140_221, tz_140_222, tz_140_223, tz_140_224, tz_140_227, tz_140_228, tz_140_231, tz_140_232, tz_140_233, tz_140_236, tz_140_237, tz_140_240, tz_140_241, tz_140_244, tz_140_245, tz_140_246, tz_140_248, tz_140_251, tz_140_254, tz_140_255, tz_140_256, tz_140_259, tz_140_262, tz_140_263, tz_140_265, tz_140_268, tz_140_271, tz_140_272, tz_140_273, tz_140_276, tz_140_279, tz_140_280, tz_140_281, tz_140_284, tz_140_285, tz_140_286, tz_140_289, tz_140_290, tz_140_291, tz_140_294, tz_140_295, tz_140_296, tz_140_299, tz_140_300, tz_140_303, tz_140_304, tz_140_305, tz_140_308, tz_140_309, tz_140_312, tz_140_315, tz_140_316, tz_140_319, tz_140_322, tz_140_323, tz_140_324, tz_140_327, tz_140_328, tz_140_331, tz_140_334, tz_140_337, tk_139, tq_139_1, tq_139_6, tq_139_7, tq_139_8, tq_139_9, tq_139_10, tq_139_12, tq_139_13, tq_139_14, tq_139_15, tq_139_16, tq_139_17, tq_139_18, tq_139_19, tq_139_21, tq_139_22, tq_139_24, tq_139_26, tq_139_27, tq_139_28, tq_139_34, tq_139_35, tq_139_36, tq_139_37, tw_va_s, tw_va_n, tw_K_s, tw_K_n, and_true, true_and, and_false, false_and, true_or, or_true, not_true_eq_false, not_false_eq_true, ↓reduceIte, Nat.reduceEqDiff, tw_st_st, tw_st_s]
  rw [show d + 3 = d + 1 + 2 by omega]
  refine tw_q_next (n := n) (tp := tp) (p := 0) hb (Nat.zero_le n) ⟨hn, ?_, ?_⟩ ?_ (fun mi' w1 w2 w3 => ?_)
  · simpa [tw_st_ap] using t2
  · rw [tw_st_n _ _ (by decide)]
    exact t3
  · simp [tw_st_ap, nI_0]
  · simp only [tz_140_0, tz_140_1, tz_140_2, tz_140_5, tz_140_6, tz_140_7, tz_140_10, tz_140_11, tz_140_12, tz_140_15, tz_140_16, tz_140_17, tz_140_20, tz_140_21, tz_140_23, tz_140_26, tz_140_27, tz_140_29, tz_140_32, tz_140_33, tz_140_36, tz_140_37, tz_140_39, tz_140_42, tz_140_43, tz_140_46, tz_140_48, tz_140_51, tz_140_52, tz_140_55, tz_140_56, tz_140_57, tz_140_60, tz_140_62, tz_140_65, tz_140_66, tz_140_69, tz_140_70, tz_140_72, tz_140_75, tz_140_76, tz_140_77, tz_140_80, tz_140_81, tz_140_82, tz_140_83, tz_140_84, tz_140_86, tz_140_89, tz_140_92, tz_140_93, tz_140_94, tz_140_95, tz_140_97, tz_140_99, tz_140_102, tz_140_103, tz_140_106, tz_140_109, tz_140_110, tz_140_111, tz_140_114, tz_140_117, tz_140_118, tz_140_119, tz_140_122, tz_140_123, tz_140_124, tz_140_127, tz_140_128, tz_140_129, tz_140_130, tz_140_133, tz_140_134, tz_140_137, tz_140_138, tz_140_139, tz_140_141, tz_140_143, tz_140_146, tz_140_147, tz_140_148, tz_140_150, tz_140_153, tz_140_156, tz_140_157, tz_140_158, tz_140_159, tz_140_161, tz_140_163, tz_140_166, tz_140_167, tz_140_170, tz_140_173, tz_140_174, tz_140_175, tz_140_178, tz_140_181, tz_140_182, tz_140_183, tz_140_186, tz_140_187, tz_140_188, tz_140_191, tz_140_192, tz_140_193, tz_140_196, tz_140_197, tz_140_200, tz_140_201, tz_140_203, tz_140_206, tz_140_208, tz_140_211, tz_140_213, tz_140_214, tz_140_217, tz_140_218, tz_140_221, tz_140_222, tz_140_223, tz_140_224, tz_140_227, tz_140_228, tz_140_231, tz_140_232, tz_140_233, tz_140_236, tz_140_237, tz_140_240, tz_140_241, tz_140_244, tz_140_245, tz_140_246, tz_140_248, tz_140_251, tz_140_254, tz_140_255, tz_140_256, tz_140_259, tz_140_262, tz_140_263, tz_140_265, tz_140_268, tz_140_271, tz_140_272, tz_140_273, tz_140_276, tz_140_279, tz_140_280, tz_140_281, tz_140_284, tz_140_285, tz_140_286, tz_140_289, tz_140_290, tz_140_291, tz_140_294, tz_140_295, tz_140_296, tz_140_299, tz_140_300, tz_140_303, tz_140_304, tz_140_305, tz_140_308, tz_140_309, tz_140_312, tz_140_315, tz_140_316, tz_140_319, tz_140_322, tz_140_323, tz_140_324, tz_140_327, tz_140_328, tz_140_331, tz_140_334, tz_140_337, tk_139, tq_139_1, tq_139_6, tq_139_7, tq_139_8, tq_139_9, tq_139_10, tq_139_12, tq_139_13, tq_139_14, tq_139_15, tq_139_16, tq_139_17, tq_139_18, tq_139_19, tq_139_21, tq_139_22, tq_139_24, tq_139_26, tq_139_27, tq_139_28, tq_139_34, tq_139_35, tq_139_36, tq_139_37, tw_va_s, tw_va_n, tw_K_s, tw_K_n, and_true, true_and, and_false, false_and, true_or, or_true, not_true_eq_false, not_false_eq_true, ↓reduceIte, Nat.reduceEqDiff]
    rw [tz_140_38]
    have e39 : mi' 139 39 = -9 := by rw [w3 39 (by decide) (by decide) (by decide) (by decide)]; simp [tw_st_ap]
    simp only [tz_140_0, tz_140_1, tz_140_2, tz_140_5, tz_140_6, tz_140_7, tz_140_10, tz_140_11, tz_140_12, tz_140_15, tz_140_16, tz_140_17, tz_140_20, tz_140_21, tz_140_23, tz_140_26, tz_140_27, tz_140_29, tz_140_32, tz_140_33, tz_140_36, tz_140_37, tz_140_39, tz_140_42, tz_140_43, tz_140_46, tz_140_48, tz_140_51, tz_140_52, tz_140_55, tz_140_56, tz_140_57, tz_140_60, tz_140_62, tz_140_65, tz_140_66, tz_140_69, tz_140_70, tz_140_72, tz_140_75, tz_140_76, tz_140_77, tz_140_80, tz_140_81, tz_140_82, tz_140_83, tz_140_84, tz_140_86, tz_140_89, tz_140_92, tz_140_93, tz_140_94, tz_140_95, tz_140_97, tz_140_99, tz_140_102, tz_140_103, tz_140_106, tz_140_109, tz_140_110, tz_140_111, tz_140_114, tz_140_117, tz_140_118, tz_140_119, tz_140_122, tz_140_123, tz_140_124, tz_140_127, tz_140_128, tz_140_129, tz_140_130, tz_140_133, tz_140_134, tz_140_137, tz_140_138, tz_140_139, tz_140_141, tz_140_143, tz_140_146, tz_140_147, tz_140_148, tz_140_150, tz_140_153, tz_140_156, tz_140_157, tz_140_158, tz_140_159, tz_140_161, tz_140_163, tz_140_166, tz_140_167, tz_140_170, tz_140_173, tz_140_174, tz_140_175, tz_140_178, tz_140_181, tz_140_182, tz_140_183, tz_140_186, tz_140_187, tz_140_188, tz_140_191, tz_140_192, tz_140_193, tz_140_196, tz_140_197, tz_140_200, tz_140_201, tz_140_203, tz_140_206, tz_140_208, tz_140_211, tz_140_213, tz_140_214, tz_140_217, tz_140_218, tz_140_221, tz_140_222, tz_140_223, tz_140_224, tz_140_227, tz_140_228, tz_140_231, tz_140_232, tz_140_233, tz_140_236, tz_140_237, tz_140_240, tz_140_241, tz_140_244, tz_140_245, tz_140_246, tz_140_248, tz_140_251, tz_140_254, tz_140_255, tz_140_256, tz_140_259, tz_140_262, tz_140_263, tz_140_265, tz_140_268, tz_140_271, tz_140_272, tz_140_273, tz_140_276, tz_140_279, tz_140_280, tz_140_281, tz_140_284, tz_140_285, tz_140_286, tz_140_289, tz_140_290, tz_140_291, tz_140_294, tz_140_295, tz_140_296, tz_140_299, tz_140_300, tz_140_303, tz_140_304, tz_140_305, tz_140_308, tz_140_309, tz_140_312, tz_140_315, tz_140_316, tz_140_319, tz_140_322, tz_140_323, tz_140_324, tz_140_327, tz_140_328, tz_140_331, tz_140_334, tz_140_337, tk_139, tq_139_1, tq_139_6, tq_139_7, tq_139_8, tq_139_9, tq_139_10, tq_139_12, tq_139_13, tq_139_14, tq_139_15, tq_139_16, tq_139_17, tq_139_18, tq_139_19, tq_139_21, tq_139_22, tq_139_24, tq_139_26, tq_139_27, tq_139_28, tq_139_34, tq_139_35, tq_139_36, tq_139_37, tw_va_s, tw_va_n, tw_K_s, tw_K_n, and_true, true_and, and_false, false_and, true_or, or_true, not_true_eq_false, not_false_eq_true, ↓reduceIte, Nat.reduceEqDiff, e39, show ¬ (1 : Int32) = 0 by decide]
    refine h (Nat.zero_le _) (Nat.le_refl _) mi' _ _ _ _ ⟨⟨fun a b1 b2 b3 => by rw [w2 a b1, tw_st_n _ _ b1], fun z z1 z2 => ?_⟩, ⟨hn, ?_, ?_⟩, w1, e39, ?_, ?_, fun k hk => absurd hk (Nat.not_lt_zero k), ?_, ?_, trivial⟩
    · rw [w3 z (by omega) (by omega) (by omega) (by omega)]
      simp only [tw_st_ap, ↓reduceIte, show ¬ z = 29 by omega, show ¬ z = 11 by omega, show ¬ z = 33 by omega, show ¬ z = 38 by omega, show ¬ z = 39 by omega, show ¬ z = 40 by omega]
    · rw [w3 2 (by decide) (by decide) (by decide) (by decide)]
      simpa [tw_st_ap] using t2
    · rw [w2 140 (by decide), tw_st_n _ _ (by decide)]
      exact t3
    · rw [w3 40 (by decide) (by decide) (by decide) (by decide)]
      simp [tw_st_ap, tx_s0]
    · rw [w3 11 (by decide) (by decide) (by decide) (by decide)]
      simp [tw_st_ap, tx_s0, nI_0]
    · rw [w3 33 (by decide) (by decide) (by decide) (by decide)]
      simp [tw_st_ap, nI_0]
    · rw [w3 38 (by decide) (by decide) (by decide) (by decide)]
      simp [tw_st_ap, nI_0, tx_dp]
end tw_mtext
