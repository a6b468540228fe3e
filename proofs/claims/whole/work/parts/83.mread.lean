/-! the reference's read -/
section tw_mread
variable {sc : Nat × (Nat → Int32)} {d t s' i n N : Nat} {mi mi0 : tw_I} {Q : Option Value → tw_G → tw_I → tw_Q → Prop} {tp : Nat → Nat} {s : tx_S} {pg : Nat → tw_Nd}
set_option maxRecDepth 100000 in
theorem tw_q_copyl (hN : N ≤ 60) : ∀ f k (mi : tw_I), N = k + f → mi 139 5 = nI N →
    (∀ j, j < N → mi 146 j = nI (pg j).1 ∧ mi 147 j = (pg j).2.1 ∧ mi 148 j = (pg j).2.2.1 ∧ mi 149 j = (pg j).2.2.2.1 ∧ mi 150 j = (pg j).2.2.2.2) →
    (∀ j, j < k → mi 141 j = nI (pg j).1 ∧ mi 142 j = (pg j).2.1 ∧ mi 143 j = (pg j).2.2.1 ∧ mi 144 j = (pg j).2.2.2.1 ∧ mi 145 j = (pg j).2.2.2.2) →
    (∀ mi' x, tw_Mt2 mi' N pg → (∀ a, a < 141 ∨ 145 < a → mi' a = mi a) → tw_E sc d 141 153 [some (.ref 139), x] [] tw_g0 mi' (tw_r0 t s' i) Q) →
    tw_E sc d 141 79 [some (.ref 139), some (.int (nI k))] [] tw_g0 mi (tw_r0 t s' i) Q := by
  intro f
  induction f with
  | zero =>
    intro k mi hk h5 hs hj hQ
    obtain rfl : k = N := by omega
    have z := hQ mi (some (.int (nI k))) ⟨hN, h5, hj⟩ (fun _ _ => rfl)
    rw [tz_141_79]
    simp only [tz_141_0, tz_141_1, tz_141_2, tz_141_5, tz_141_6, tz_141_9, tz_141_10, tz_141_13, tz_141_15, tz_141_18, tz_141_19, tz_141_22, tz_141_24, tz_141_27, tz_141_28, tz_141_29, tz_141_32, tz_141_34, tz_141_37, tz_141_38, tz_141_41, tz_141_42, tz_141_45, tz_141_47, tz_141_48, tz_141_51, tz_141_53, tz_141_56, tz_141_57, tz_141_60, tz_141_63, tz_141_64, tz_141_67, tz_141_68, tz_141_69, tz_141_70, tz_141_71, tz_141_74, tz_141_77, tz_141_78, tz_141_80, tz_141_81, tz_141_84, tz_141_87, tz_141_88, tz_141_91, tz_141_92, tz_141_93, tz_141_96, tz_141_97, tz_141_98, tz_141_99, tz_141_100, tz_141_103, tz_141_104, tz_141_105, tz_141_108, tz_141_109, tz_141_110, tz_141_111, tz_141_112, tz_141_115, tz_141_116, tz_141_117, tz_141_120, tz_141_121, tz_141_122, tz_141_123, tz_141_124, tz_141_127, tz_141_128, tz_141_129, tz_141_132, tz_141_133, tz_141_134, tz_141_135, tz_141_136, tz_141_139, tz_141_140, tz_141_141, tz_141_144, tz_141_145, tz_141_146, tz_141_147, tz_141_150, tz_141_153, tz_141_154, tz_141_155, tz_141_158, tz_141_159, tz_141_160, tz_141_163, tz_141_164, tz_141_165, tz_141_168, tz_141_169, tz_141_172, tz_141_173, tz_141_176, tk_139, tq_139_1, tq_139_6, tq_139_7, tq_139_8, tq_139_9, tq_139_10, tq_139_12, tq_139_13, tq_139_14, tq_139_15, tq_139_16, tq_139_17, tq_139_18, tq_139_19, tq_139_21, tq_139_22, tq_139_24, tq_139_26, tq_139_27, tq_139_28, tq_139_34, tq_139_35, tq_139_36, tq_139_37, tw_va_s, tw_va_n, tw_K_s, tw_K_n, and_true, true_and, and_false, false_and, true_or, or_true, not_true_eq_false, not_false_eq_true, ↓reduceIte, Nat.reduceEqDiff, h5] at z ⊢
    rw [tw_le_t (by omega) (by omega)]
    exact z
  | succ f ih =>
    intro k mi hk h5 hs hj hQ
    have hkN : k < N := by omega
    obtain ⟨s0, s1, s2, s3, s4⟩ := hs k hkN
    rw [tz_141_79]
    simp only [tz_141_0, tz_141_1, tz_141_2, tz_141_5, tz_141_6, tz_141_9, tz_141_10, tz_141_13, tz_141_15, tz_141_18, tz_141_19, tz_141_22, tz_141_24, tz_141_27, tz_141_28, tz_141_29, tz_141_32, tz_141_34, tz_141_37, tz_141_38, tz_141_41, tz_141_42, tz_141_45, tz_141_47, tz_141_48, tz_141_51, tz_141_53, tz_141_56, tz_141_57, tz_141_60, tz_141_63, tz_141_64, tz_141_67, tz_141_68, tz_141_69, tz_141_70, tz_141_71, tz_141_74, tz_141_77, tz_141_78, tz_141_80, tz_141_81, tz_141_84, tz_141_87, tz_141_88, tz_141_91, tz_141_92, tz_141_93, tz_141_96, tz_141_97, tz_141_98, tz_141_99, tz_141_100, tz_141_103, tz_141_104, tz_141_105, tz_141_108, tz_141_109, tz_141_110, tz_141_111, tz_141_112, tz_141_115, tz_141_116, tz_141_117, tz_141_120, tz_141_121, tz_141_122, tz_141_123, tz_141_124, tz_141_127, tz_141_128, tz_141_129, tz_141_132, tz_141_133, tz_141_134, tz_141_135, tz_141_136, tz_141_139, tz_141_140, tz_141_141, tz_141_144, tz_141_145, tz_141_146, tz_141_147, tz_141_150, tz_141_153, tz_141_154, tz_141_155, tz_141_158, tz_141_159, tz_141_160, tz_141_163, tz_141_164, tz_141_165, tz_141_168, tz_141_169, tz_141_172, tz_141_173, tz_141_176, tk_139, tq_139_1, tq_139_6, tq_139_7, tq_139_8, tq_139_9, tq_139_10, tq_139_12, tq_139_13, tq_139_14, tq_139_15, tq_139_16, tq_139_17, tq_139_18, tq_139_19, tq_139_21, tq_139_22, tq_139_24, tq_139_26, tq_139_27, tq_139_28, tq_139_34, tq_139_35, tq_139_36, tq_139_37, tk_141, tj_141, tk_142, tj_142, tk_143, tj_143, tk_144, tj_144, tk_145, tj_145, tk_146, tj_146, tk_147, tj_147, tk_148, tj_148, tk_149, tj_149, tk_150, tj_150, tw_va_s, tw_va_n, tw_K_s, tw_K_n, and_true, true_and, and_false, false_and, true_or, or_true, not_true_eq_false, not_false_eq_true, ↓reduceIte, Nat.reduceEqDiff, h5, tw_st_ap, nI_clamp (show k < 2 ^ 31 by omega), vp_in_nI (show k < 64 by omega) (by omega), s0, s1, s2, s3, s4]
    rw [tw_le_f (by omega) (by omega)]
    simp only [tw_va_s, tw_va_n, tw_K_s, tw_K_n, and_true, true_and, and_false, false_and, true_or, or_true, not_true_eq_false, not_false_eq_true, ↓reduceIte, Nat.reduceEqDiff, nI_1]
    have hr : ∀ mi3 : tw_I, (∀ a, a < 141 ∨ 145 < a → mi3 a = mi a) → (∀ j, j ≠ k → mi3 141 j = mi 141 j ∧ mi3 142 j = mi 142 j ∧ mi3 143 j = mi 143 j ∧ mi3 144 j = mi 144 j ∧ mi3 145 j = mi 145 j) → (mi3 141 k = nI (pg k).1 ∧ mi3 142 k = (pg k).2.1 ∧ mi3 143 k = (pg k).2.2.1 ∧ mi3 144 k = (pg k).2.2.2.1 ∧ mi3 145 k = (pg k).2.2.2.2) → tw_E sc d 141 79 [some (.ref 139), some (.int (nI (k + 1)))] [] tw_g0 mi3 (tw_r0 t s' i) Q := by
      intro mi3 g1 g2 g3
      refine ih (k + 1) mi3 (by omega) (by rw [g1 139 (by omega)]; exact h5) (fun j hjN => ?_) (fun j hj2 => ?_) (fun mi' x w1 w2 => hQ mi' x w1 (fun a ha => by rw [w2 a ha, g1 a ha]))
      · rw [g1 146 (by omega), g1 147 (by omega), g1 148 (by omega), g1 149 (by omega), g1 150 (by omega)]
        exact hs j hjN
      · by_cases hjk : j = k
        · subst hjk; exact g3
        · obtain ⟨a, b, c, e, f⟩ := g2 j hjk
          rw [a, b, c, e, f]
          exact hj j (by omega)
    refine hr _ (fun a ha => ?_) (fun j hj2 => ⟨?_, ?_, ?_, ?_, ?_⟩) ⟨?_, ?_, ?_, ?_, ?_⟩
    · simp only [tw_st_ap, show ¬ a = 141 by omega, show ¬ a = 142 by omega, show ¬ a = 143 by omega, show ¬ a = 144 by omega, show ¬ a = 145 by omega, ↓reduceIte]
    all_goals first | (simp only [tw_st_ap, ↓reduceIte, Nat.reduceEqDiff, if_neg hj2]; done) | (simp only [tw_st_ap, ↓reduceIte, Nat.reduceEqDiff]; done)
set_option maxRecDepth 100000 in
theorem tw_q_read (hb : ∀ j, j < n → tp j < 256) (hT : tw_Mt mi n tp)
    (hQ1 : tx_acc (tx_read n tp) = none → ∀ mi', mi' 139 3 = tx_fl (tx_read n tp) → (∀ a, a ≠ 139 → (a < 146 ∨ 150 < a) → (a < 160 ∨ 163 < a) → mi' a = mi a) → (∀ z, z < 29 → z ≠ 0 → z ≠ 3 → z ≠ 11 → mi' 139 z = mi 139 z) → Q (some (.int (tx_an (tx_read n tp)))) tw_g0 mi' (tw_r0 t s' i))
    (hQ2 : ∀ N pg, tx_acc (tx_read n tp) = some (N, pg) → ∀ mi', tw_MS mi' N pg tw_S0 → tw_is mi' N → tw_Mt mi' 0 tp → mi' 139 3 = tx_fl (tx_read n tp) → (∀ a, a < 139 ∨ a = 140 ∨ 153 < a → (a < 160 ∨ 163 < a) → mi' a = mi a) → (∀ z, z < 29 → z ≠ 0 → z ≠ 2 → z ≠ 3 → z ≠ 4 → z ≠ 5 → z ≠ 11 → z ≠ 20 → mi' 139 z = mi 139 z) → Q (some (.int (tx_an (tx_read n tp)))) tw_g0 mi' (tw_r0 t s' i)) :
    tw_E sc (d + 5) 141 0 [some (.ref 139), none] [] tw_g0 mi (tw_r0 t s' i) Q := by
  obtain ⟨hn, t2, t3⟩ := hT
  have hgd : tx_gd n tx_s0 (tx_row n tp (tx_one n tp 62 0) tx_s0) := tx_read_gd (n := n) (tp := tp) hb
  have hT' : tw_Mt (tw_th mi) n tp := ⟨hn, by rw [tw_th_x mi (by decide)]; exact t2, by rw [tw_th_a mi (by decide)]; exact t3⟩
  have hrd : tx_read n tp = match tx_row n tp (tx_one n tp 62 0) tx_s0 with
    | .inl e => .inl e
    | .inr (r, s) => if tx_to n tp s.1 = 257 then .inr (r, s) else .inl (tx_pl n tp s.1) := rfl
  have he : ∀ e, tx_read n tp = .inl e → e ≤ n := by
    intro e h
    rw [hrd] at h
    cases hr : tx_row n tp (tx_one n tp 62 0) tx_s0 with
    | inl e' => rw [hr] at h hgd; cases h; exact hgd
    | inr q =>
      obtain ⟨r, s⟩ := q
      rw [hr] at h hgd
      simp only at h
      split at h
      · cases h
      · cases h
        exact (tx_pl_le (tp := tp) hgd.2.1).2
  have hr1 : ∀ r s, tx_read n tp = .inr (r, s) → 1 ≤ s.2.1 ∧ s.2.1 ≤ 60 := by
    intro r0 s0 h
    rw [hrd] at h
    cases hr : tx_row n tp (tx_one n tp 62 0) tx_s0 with
    | inl e' => rw [hr] at h; cases h
    | inr q =>
      obtain ⟨r, s⟩ := q
      rw [hr] at h hgd
      obtain ⟨g1, g2, g3, g4, g5, g6, g7⟩ := hgd
      have g3' : s.2.1 + 0 ≤ s.1 + 0 := g3
      simp only at h
      split at h
      · cases h
        omega
      · cases h
  rw [tz_141_0, tz_141_1, tz_141_2]
  refine ⟨tk_139, ?_⟩
  rw [show tw_st mi 139 (tw_st (mi 139) 0 0) = tw_th mi from rfl]
  simp only [tz_141_0, tz_141_1, tz_141_2, tz_141_5, tz_141_6, tz_141_9, tz_141_10, tz_141_13, tz_141_15, tz_141_18, tz_141_19, tz_141_22, tz_141_24, tz_141_27, tz_141_28, tz_141_29, tz_141_32, tz_141_34, tz_141_37, tz_141_38, tz_141_41, tz_141_42, tz_141_45, tz_141_47, tz_141_48, tz_141_51, tz_141_53, tz_141_56, tz_141_57, tz_141_60, tz_141_63, tz_141_64, tz_141_67, tz_141_68, tz_141_69, tz_141_70, tz_141_71, tz_141_74, tz_141_77, tz_141_78, tz_141_80, tz_141_81, tz_141_84, tz_141_87, tz_141_88, tz_141_91, tz_141_92, tz_141_93, tz_141_96, tz_141_97, tz_141_98, tz_141_99, tz_141_100, tz_141_103, tz_141_104, tz_141_105, tz_141_108, tz_141_109, tz_141_110, tz_141_111, tz_141_112, tz_141_115, tz_141_116, tz_141_117, tz_141_120, tz_141_121, tz_141_122, tz_141_123, tz_141_124, tz_141_127, tz_141_128, tz_141_129, tz_141_132, tz_141_133, tz_141_134, tz_141_135, tz_141_136, tz_141_139, tz_141_140, tz_141_141, tz_141_144, tz_141_145, tz_141_146, tz_141_147, tz_141_150, tz_141_153, tz_141_154, tz_141_155, tz_141_158, tz_141_159, tz_141_160, tz_141_163, tz_141_164, tz_141_165, tz_141_168, tz_141_169, tz_141_172, tz_141_173, tz_141_176, tk_139, tq_139_1, tq_139_6, tq_139_7, tq_139_8, tq_139_9, tq_139_10, tq_139_12, tq_139_13, tq_139_14, tq_139_15, tq_139_16, tq_139_17, tq_139_18, tq_139_19, tq_139_21, tq_139_22, tq_139_24, tq_139_26, tq_139_27, tq_139_28, tq_139_34, tq_139_35, tq_139_36, tq_139_37, tw_va_s, tw_va_n, tw_K_s, tw_K_n, and_true, true_and, and_false, false_and, true_or, or_true, not_true_eq_false, not_false_eq_true, ↓reduceIte, Nat.reduceEqDiff]
  refine tx_q_parse hb hT' ?_
  cases hr : tx_read n tp with
  | inl e =>
    rw [hr] at hQ1
    intro mi' hW
    have h9 := tx_nI9 (show e < 2 ^ 31 by have := he e hr; omega)
    simp only [tz_141_0, tz_141_1, tz_141_2, tz_141_5, tz_141_6, tz_141_9, tz_141_10, tz_141_13, tz_141_15, tz_141_18, tz_141_19, tz_141_22, tz_141_24, tz_141_27, tz_141_28, tz_141_29, tz_141_32, tz_141_34, tz_141_37, tz_141_38, tz_141_41, tz_141_42, tz_141_45, tz_141_47, tz_141_48, tz_141_51, tz_141_53, tz_141_56, tz_141_57, tz_141_60, tz_141_63, tz_141_64, tz_141_67, tz_141_68, tz_141_69, tz_141_70, tz_141_71, tz_141_74, tz_141_77, tz_141_78, tz_141_80, tz_141_81, tz_141_84, tz_141_87, tz_141_88, tz_141_91, tz_141_92, tz_141_93, tz_141_96, tz_141_97, tz_141_98, tz_141_99, tz_141_100, tz_141_103, tz_141_104, tz_141_105, tz_141_108, tz_141_109, tz_141_110, tz_141_111, tz_141_112, tz_141_115, tz_141_116, tz_141_117, tz_141_120, tz_141_121, tz_141_122, tz_141_123, tz_141_124, tz_141_127, tz_141_128, tz_141_129, tz_141_132, tz_141_133, tz_141_134, tz_141_135, tz_141_136, tz_141_139, tz_141_140, tz_141_141, tz_141_144, tz_141_145, tz_141_146, tz_141_147, tz_141_150, tz_141_153, tz_141_154, tz_141_155, tz_141_158, tz_141_159, tz_141_160, tz_141_163, tz_141_164, tz_141_165, tz_141_168, tz_141_169, tz_141_172, tz_141_173, tz_141_176, tk_139, tq_139_1, tq_139_6, tq_139_7, tq_139_8, tq_139_9, tq_139_10, tq_139_12, tq_139_13, tq_139_14, tq_139_15, tq_139_16, tq_139_17, tq_139_18, tq_139_19, tq_139_21, tq_139_22, tq_139_24, tq_139_26, tq_139_27, tq_139_28, tq_139_34, tq_139_35, tq_139_36, tq_139_37, tw_va_s, tw_va_n, tw_K_s, tw_K_n, and_true, true_and, and_false, false_and, true_or, or_true, not_true_eq_false, not_false_eq_true, ↓reduceIte, Nat.reduceEqDiff, hW.2, h9, tw_st_ap, Nat.reduceEqDiff]
    refine hQ1 rfl _ (by simp only [tw_st_ap, ↓reduceIte]; rfl) (fun a b1 b2 b3 => by rw [tw_st_n _ _ b1, hW.1.1 a b1 b2 b3, tw_th_a mi b1]) (fun z z1 z2 z3 z4 => by rw [tw_st_s, tw_st_n _ _ z3, hW.1.2 z z1 z4, tw_th_x mi z2])
  | inr q =>
    obtain ⟨r, s⟩ := q
    have hN := hr1 r s hr
    rw [hr] at hQ1 hQ2
    intro mi' hM
    obtain ⟨⟨f1, f2⟩, ⟨t1', t2', t3'⟩, hP, a1, a2, a3, a4, a5, a6, hK⟩ := hM
    by_cases h9 : s.2.2.2 = -9
    · have ea : tx_acc (.inr (r, s)) = some (s.2.1, s.2.2.1) := by simp only [tx_acc, h9, ↓reduceIte]
      have en : tx_an (.inr (r, s)) = nI s.2.1 := by simp only [tx_an, h9, ↓reduceIte]
      have ef : tx_fl (.inr (r, s)) = 0 := by simp only [tx_fl, h9, ↓reduceIte]
      have hq := hQ2 _ _ ea
      rw [en, ef] at hq
      simp only [tz_141_0, tz_141_1, tz_141_2, tz_141_5, tz_141_6, tz_141_9, tz_141_10, tz_141_13, tz_141_15, tz_141_18, tz_141_19, tz_141_22, tz_141_24, tz_141_27, tz_141_28, tz_141_29, tz_141_32, tz_141_34, tz_141_37, tz_141_38, tz_141_41, tz_141_42, tz_141_45, tz_141_47, tz_141_48, tz_141_51, tz_141_53, tz_141_56, tz_141_57, tz_141_60, tz_141_63, tz_141_64, tz_141_67, tz_141_68, tz_141_69, tz_141_70, tz_141_71, tz_141_74, tz_141_77, tz_141_78, tz_141_80, tz_141_81, tz_141_84, tz_141_87, tz_141_88, tz_141_91, tz_141_92, tz_141_93, tz_141_96, tz_141_97, tz_141_98, tz_141_99, tz_141_100, tz_141_103, tz_141_104, tz_141_105, tz_141_108, tz_141_109, tz_141_110, tz_141_111, tz_141_112, tz_141_115, tz_141_116, tz_141_117, tz_141_120, tz_141_121, tz_141_122, tz_141_123, tz_141_124, tz_141_127, tz_141_128, tz_141_129, tz_141_132, tz_141_133, tz_141_134, tz_141_135, tz_141_136, tz_141_139, tz_141_140, tz_141_141, tz_141_144, tz_141_145, tz_141_146, tz_141_147, tz_141_150, tz_141_153, tz_141_154, tz_141_155, tz_141_158, tz_141_159, tz_141_160, tz_141_163, tz_141_164, tz_141_165, tz_141_168, tz_141_169, tz_141_172, tz_141_173, tz_141_176, tk_139, tq_139_1, tq_139_6, tq_139_7, tq_139_8, tq_139_9, tq_139_10, tq_139_12, tq_139_13, tq_139_14, tq_139_15, tq_139_16, tq_139_17, tq_139_18, tq_139_19, tq_139_21, tq_139_22, tq_139_24, tq_139_26, tq_139_27, tq_139_28, tq_139_34, tq_139_35, tq_139_36, tq_139_37, tw_va_s, tw_va_n, tw_K_s, tw_K_n, and_true, true_and, and_false, false_and, true_or, or_true, not_true_eq_false, not_false_eq_true, ↓reduceIte, Nat.reduceEqDiff, a1, a2, a3, h9]
      rw [tl0]
      refine tw_q_copyl (N := s.2.1) (pg := s.2.2.1) hN.2 s.2.1 0 _ (by omega) (by rw [tw_st_s, tw_st_s]) (fun j hj => ?_) (fun j hj => absurd hj (Nat.not_lt_zero j)) (fun mi2 x w1 w2 => ?_)
      · rw [tw_st_n _ _ (by decide), tw_st_n _ _ (by decide), tw_st_n _ _ (by decide), tw_st_n _ _ (by decide), tw_st_n _ _ (by decide)]
        exact a4 j hj
      · have e139 : mi2 139 = tw_st (mi' 139) 5 (nI s.2.1) := by rw [w2 139 (by omega), tw_st_s]
        simp only [tz_141_0, tz_141_1, tz_141_2, tz_141_5, tz_141_6, tz_141_9, tz_141_10, tz_141_13, tz_141_15, tz_141_18, tz_141_19, tz_141_22, tz_141_24, tz_141_27, tz_141_28, tz_141_29, tz_141_32, tz_141_34, tz_141_37, tz_141_38, tz_141_41, tz_141_42, tz_141_45, tz_141_47, tz_141_48, tz_141_51, tz_141_53, tz_141_56, tz_141_57, tz_141_60, tz_141_63, tz_141_64, tz_141_67, tz_141_68, tz_141_69, tz_141_70, tz_141_71, tz_141_74, tz_141_77, tz_141_78, tz_141_80, tz_141_81, tz_141_84, tz_141_87, tz_141_88, tz_141_91, tz_141_92, tz_141_93, tz_141_96, tz_141_97, tz_141_98, tz_141_99, tz_141_100, tz_141_103, tz_141_104, tz_141_105, tz_141_108, tz_141_109, tz_141_110, tz_141_111, tz_141_112, tz_141_115, tz_141_116, tz_141_117, tz_141_120, tz_141_121, tz_141_122, tz_141_123, tz_141_124, tz_141_127, tz_141_128, tz_141_129, tz_141_132, tz_141_133, tz_141_134, tz_141_135, tz_141_136, tz_141_139, tz_141_140, tz_141_141, tz_141_144, tz_141_145, tz_141_146, tz_141_147, tz_141_150, tz_141_153, tz_141_154, tz_141_155, tz_141_158, tz_141_159, tz_141_160, tz_141_163, tz_141_164, tz_141_165, tz_141_168, tz_141_169, tz_141_172, tz_141_173, tz_141_176, tk_139, tq_139_1, tq_139_6, tq_139_7, tq_139_8, tq_139_9, tq_139_10, tq_139_12, tq_139_13, tq_139_14, tq_139_15, tq_139_16, tq_139_17, tq_139_18, tq_139_19, tq_139_21, tq_139_22, tq_139_24, tq_139_26, tq_139_27, tq_139_28, tq_139_34, tq_139_35, tq_139_36, tq_139_37, tw_va_s, tw_va_n, tw_K_s, tw_K_n, and_true, true_and, and_false, false_and, true_or, or_true, not_true_eq_false, not_false_eq_true, ↓reduceIte, Nat.reduceEqDiff, tw_st_st, tw_st_s, e139]
        have hM2 : tw_Mt2 (tw_st mi2 139 (tw_st (tw_st (tw_st (tw_st (mi' 139) 5 (nI s.2.1)) 3 0) 2 0) 4 1)) s.2.1 s.2.2.1 := by
          obtain ⟨z1, z2, z3⟩ := w1
          refine ⟨z1, by simp only [tw_st_ap, ↓reduceIte, Nat.reduceEqDiff], fun k hk => ?_⟩
          rw [tw_st_n _ _ (by decide), tw_st_n _ _ (by decide), tw_st_n _ _ (by decide), tw_st_n _ _ (by decide), tw_st_n _ _ (by decide)]
          exact z3 k hk
        refine tw_q_begin hM2 (fun mi3 v1 v2 v3 => ?_)
        have e5 : mi3 139 5 = nI s.2.1 := v1.2.2.1
        simp only [tz_141_0, tz_141_1, tz_141_2, tz_141_5, tz_141_6, tz_141_9, tz_141_10, tz_141_13, tz_141_15, tz_141_18, tz_141_19, tz_141_22, tz_141_24, tz_141_27, tz_141_28, tz_141_29, tz_141_32, tz_141_34, tz_141_37, tz_141_38, tz_141_41, tz_141_42, tz_141_45, tz_141_47, tz_141_48, tz_141_51, tz_141_53, tz_141_56, tz_141_57, tz_141_60, tz_141_63, tz_141_64, tz_141_67, tz_141_68, tz_141_69, tz_141_70, tz_141_71, tz_141_74, tz_141_77, tz_141_78, tz_141_80, tz_141_81, tz_141_84, tz_141_87, tz_141_88, tz_141_91, tz_141_92, tz_141_93, tz_141_96, tz_141_97, tz_141_98, tz_141_99, tz_141_100, tz_141_103, tz_141_104, tz_141_105, tz_141_108, tz_141_109, tz_141_110, tz_141_111, tz_141_112, tz_141_115, tz_141_116, tz_141_117, tz_141_120, tz_141_121, tz_141_122, tz_141_123, tz_141_124, tz_141_127, tz_141_128, tz_141_129, tz_141_132, tz_141_133, tz_141_134, tz_141_135, tz_141_136, tz_141_139, tz_141_140, tz_141_141, tz_141_144, tz_141_145, tz_141_146, tz_141_147, tz_141_150, tz_141_153, tz_141_154, tz_141_155, tz_141_158, tz_141_159, tz_141_160, tz_141_163, tz_141_164, tz_141_165, tz_141_168, tz_141_169, tz_141_172, tz_141_173, tz_141_176, tk_139, tq_139_1, tq_139_6, tq_139_7, tq_139_8, tq_139_9, tq_139_10, tq_139_12, tq_139_13, tq_139_14, tq_139_15, tq_139_16, tq_139_17, tq_139_18, tq_139_19, tq_139_21, tq_139_22, tq_139_24, tq_139_26, tq_139_27, tq_139_28, tq_139_34, tq_139_35, tq_139_36, tq_139_37, tw_va_s, tw_va_n, tw_K_s, tw_K_n, and_true, true_and, and_false, false_and, true_or, or_true, not_true_eq_false, not_false_eq_true, ↓reduceIte, Nat.reduceEqDiff, e5]
        refine hq mi3 v1 ?_ ⟨Nat.zero_le _, ?_, fun j hj => absurd hj (Nat.not_lt_zero j)⟩ ?_ (fun a b1 b2 => ?_) (fun z z1 z2 z3 z4 z5 z6 z7 z8 => ?_)
        · unfold tw_is
          rw [v3 4 (by decide), if_neg (by omega)]
          simp only [tw_st_ap, ↓reduceIte]
        · rw [v3 2 (by decide)]
          simp only [tw_st_ap, ↓reduceIte, Nat.reduceEqDiff]
          rfl
        · rw [v3 3 (by decide)]
          simp only [tw_st_ap, ↓reduceIte, Nat.reduceEqDiff]
        · rw [v2 a (by omega) (by omega) (by omega) (by omega), tw_st_n _ _ (by omega), w2 a (by omega), tw_st_n _ _ (by omega), f1 a (by omega) (by omega) b2, tw_th_a mi (by omega)]
        · rw [v3 z z8]
          simp only [tw_st_ap, ↓reduceIte, z3, z4, z5, z6]
          rw [f2 z z1 z7, tw_th_x mi z2]
    · have ea : tx_acc (.inr (r, s)) = none := by simp only [tx_acc, h9, ↓reduceIte]
      have en : tx_an (.inr (r, s)) = -100 - s.2.2.2 := by simp only [tx_an, h9, ↓reduceIte]
      have ef : tx_fl (.inr (r, s)) = 2 := by simp only [tx_fl, h9, ↓reduceIte]
      have hq := hQ1 ea
      rw [en, ef] at hq
      simp only [tz_141_0, tz_141_1, tz_141_2, tz_141_5, tz_141_6, tz_141_9, tz_141_10, tz_141_13, tz_141_15, tz_141_18, tz_141_19, tz_141_22, tz_141_24, tz_141_27, tz_141_28, tz_141_29, tz_141_32, tz_141_34, tz_141_37, tz_141_38, tz_141_41, tz_141_42, tz_141_45, tz_141_47, tz_141_48, tz_141_51, tz_141_53, tz_141_56, tz_141_57, tz_141_60, tz_141_63, tz_141_64, tz_141_67, tz_141_68, tz_141_69, tz_141_70, tz_141_71, tz_141_74, tz_141_77, tz_141_78, tz_141_80, tz_141_81, tz_141_84, tz_141_87, tz_141_88, tz_141_91, tz_141_92, tz_141_93, tz_141_96, tz_141_97, tz_141_98, tz_141_99, tz_141_100, tz_141_103, tz_141_104, tz_141_105, tz_141_108, tz_141_109, tz_141_110, tz_141_111, tz_141_112, tz_141_115, tz_141_116, tz_141_117, tz_141_120, tz_141_121, tz_141_122, tz_141_123, tz_141_124, tz_141_127, tz_141_128, tz_141_129, tz_141_132, tz_141_133, tz_141_134, tz_141_135, tz_141_136, tz_141_139, tz_141_140, tz_141_141, tz_141_144, tz_141_145, tz_141_146, tz_141_147, tz_141_150, tz_141_153, tz_141_154, tz_141_155, tz_141_158, tz_141_159, tz_141_160, tz_141_163, tz_141_164, tz_141_165, tz_141_168, tz_141_169, tz_141_172, tz_141_173, tz_141_176, tk_139, tq_139_1, tq_139_6, tq_139_7, tq_139_8, tq_139_9, tq_139_10, tq_139_12, tq_139_13, tq_139_14, tq_139_15, tq_139_16, tq_139_17, tq_139_18, tq_139_19, tq_139_21, tq_139_22, tq_139_24, tq_139_26, tq_139_27, tq_139_28, tq_139_34, tq_139_35, tq_139_36, tq_139_37, tw_va_s, tw_va_n, tw_K_s, tw_K_n, and_true, true_and, and_false, false_and, true_or, or_true, not_true_eq_false, not_false_eq_true, ↓reduceIte, Nat.reduceEqDiff, a1, a2, h9, tw_st_ap, Nat.reduceEqDiff]
      refine hq _ (by simp only [tw_st_ap, ↓reduceIte]) (fun a b1 b2 b3 => by rw [tw_st_n _ _ b1, f1 a b1 b2 b3, tw_th_a mi b1]) (fun z z1 z2 z3 z4 => by rw [tw_st_s, tw_st_n _ _ z3, f2 z z1 z4, tw_th_x mi z2])
end tw_mread
