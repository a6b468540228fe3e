/-! the class reads: behind a ; -/
section tw_crow
variable {sc : Nat × (Nat → Int32)} {d t s' i n u p0 : Nat} {mi mi0 : tw_I} {Q : Option Value → tw_G → tw_I → tw_Q → Prop} {tp : Nat → Nat} {s : tx_S}
set_option maxRecDepth 100000 in
/-- a second part by either, and a node -/
theorem tx_p_armed {D e r : Nat} {g : tx_S → tx_R} {s0 s1 : tx_S} (hu : u = 1 ∨ u = 63) (hg : tx_G n g) (H : tx_H sc (D + 2) 73 [some (.ref 127), some (.int (nI e)), none, none, none] mi0 n tp u t s' p0 g)
    (hm : tx_md n s0 r s1) (hM : s0.2.1 ≤ s0.1) (hp : p0 ≤ s0.1) (h1 : s1.1 < s.1) (h2 : s.1 ≤ n) (h3 : s.2.1 = s1.2.1) (h4 : s.2.2.1 = s1.2.2.1) (hC : tx_RC mi0 mi n tp u s)
    (hQ : ∀ mi', tx_RR mi0 mi' n tp u (tx_sn g 6 (-9) (-9) r s) → Q (some (.int (tx_ri (tx_sn g 6 (-9) (-9) r s)))) tw_g0 mi' (tw_r0 t s' u)) :
    tw_E sc (D + 3) 71 0 [some (.ref 127), some (.int (nI r)), some (.int (nI e)), none] [] tw_g0 mi (tw_r0 t s' u) Q := by
  obtain ⟨m1, m2, m3, m4, m5, m6, m7⟩ := hm
  have hn := hC.2.1.1
  have hva : tx_va s := by
    unfold tx_va
    rw [h3, h4]
    exact m7
  have hgd := hg s h2 hva
  simp only [tz_71_0, tz_71_1, tz_71_2, tz_71_5, tz_71_6, tz_71_7, tz_71_10, tz_71_11, tz_71_14, tz_71_15, tz_71_17, tz_71_18, tz_71_19, tz_71_21, tz_71_23, tz_71_26, tk_127, tq_127_0, tq_i, tw_va_s, tw_va_n, tw_K_s, tw_K_n, and_true, true_and, and_false, false_and, true_or, or_true, not_true_eq_false, not_false_eq_true, ↓reduceIte, Nat.reduceEqDiff]
  refine H mi s _ (by omega) h2 (by omega) hva hC (fun mi2 w2 => ?_)
  cases hr : g s with
  | inl e =>
    rw [tx_sn_l hr] at hQ
    rw [hr] at w2
    simp only [tz_71_0, tz_71_1, tz_71_2, tz_71_5, tz_71_6, tz_71_7, tz_71_10, tz_71_11, tz_71_14, tz_71_15, tz_71_17, tz_71_18, tz_71_19, tz_71_21, tz_71_23, tz_71_26, tk_127, tq_127_0, tq_i, tw_va_s, tw_va_n, tw_K_s, tw_K_n, and_true, true_and, and_false, false_and, true_or, or_true, not_true_eq_false, not_false_eq_true, ↓reduceIte, Nat.reduceEqDiff, tx_ri_l, tx_nng]
    exact hQ mi2 w2
  | inr q =>
    obtain ⟨r2, s2⟩ := q
    rw [tx_sn_r hr] at hQ
    rw [hr] at w2 hgd
    obtain ⟨g1, g2, g3, g4, g5, g6, g7⟩ := hgd
    have hr0 : (0 : Int32) ≤ nI r2 := Int32.not_lt.mp (nI_pos (by omega))
    simp only [tz_71_0, tz_71_1, tz_71_2, tz_71_5, tz_71_6, tz_71_7, tz_71_10, tz_71_11, tz_71_14, tz_71_15, tz_71_17, tz_71_18, tz_71_19, tz_71_21, tz_71_23, tz_71_26, tk_127, tq_127_0, tq_i, tw_va_s, tw_va_n, tw_K_s, tw_K_n, and_true, true_and, and_false, false_and, true_or, or_true, not_true_eq_false, not_false_eq_true, ↓reduceIte, Nat.reduceEqDiff, tx_ri_r, hr0]
    refine tx_p_mk hu w2 (by omega) 6 tl6 (fun mi3 w3 => ?_)
    simp only [tz_71_0, tz_71_1, tz_71_2, tz_71_5, tz_71_6, tz_71_7, tz_71_10, tz_71_11, tz_71_14, tz_71_15, tz_71_17, tz_71_18, tz_71_19, tz_71_21, tz_71_23, tz_71_26, tw_va_s, tw_va_n, tw_K_s, tw_K_n, and_true, true_and, and_false, false_and, true_or, or_true, not_true_eq_false, not_false_eq_true, ↓reduceIte, Nat.reduceEqDiff]
    exact hQ mi3 w3
set_option maxRecDepth 100000 in
theorem tx_p_timed {D e r : Nat} {g : tx_S → tx_R} {s0 : tx_S} (hu : u = 1 ∨ u = 63) (hb : ∀ j, j < n → tp j < 256) (hg : tx_G n g) (H : tx_H sc (D + 3) 73 [some (.ref 127), some (.int (nI e)), none, none, none] mi0 n tp u t s' p0 g)
    (hm : tx_md n s0 r s) (hM : s0.2.1 ≤ s0.1) (hp : p0 ≤ s0.1) {s1 : tx_S} (hs1 : s1 = tx_ad n tp s) (h59 : ¬ tx_to n tp s.1 = 257) (hC : tx_RC mi0 mi n tp u s1) (ht : tx_to n tp s1.1 = 256)
    (hQ : ∀ mi', tx_RR mi0 mi' n tp u (tx_span n tp g r s1) → Q (some (.int (tx_ri (tx_span n tp g r s1)))) tw_g0 mi' (tw_r0 t s' u)) :
    tw_E sc (D + 4) 72 0 [some (.ref 127), some (.int (nI r)), some (.int (nI e)), none, none, none] [] tw_g0 mi (tw_r0 t s' u) Q := by
  obtain ⟨m1, m2, m3, m4, m5, m6, m7⟩ := hm
  have hn := hC.2.1.1
  have k1 := tx_en_lt (tp := tp) m2 h59
  have k2 := (tx_en_le (tp := tp) m2).2.1
  have e1 : s1.1 = tx_en n tp s.1 := by rw [hs1]; rfl
  have e2 : s1.2 = s.2 := by rw [hs1]; rfl
  have a1 : s1.1 ≤ n := by omega
  have b1 := tx_en_lt (tp := tp) a1 (by omega)
  have a2 := (tx_en_le (tp := tp) a1).2.1
  have p2 := tx_pl_le (tp := tp) a2
  have t2 := tx_to_lt hb (tx_en n tp s1.1)
  have a3 := (tx_en_le (tp := tp) a2).2.1
  have p3 := tx_pl_le (tp := tp) a3
  have t3 := tx_to_lt hb (tx_en n tp (tx_en n tp s1.1))
  have a4 := (tx_en_le (tp := tp) a3).2.1
  have nu1 := tx_nu_ok ht hb
  have hnum := hC.2.2.1.2.2.2 ht
  simp only [tz_72_0, tz_72_1, tz_72_4, tz_72_5, tz_72_6, tz_72_9, tz_72_10, tz_72_12, tz_72_15, tz_72_18, tz_72_19, tz_72_22, tz_72_25, tz_72_28, tz_72_29, tz_72_32, tz_72_33, tz_72_34, tz_72_37, tz_72_39, tz_72_41, tz_72_42, tz_72_45, tz_72_46, tz_72_49, tz_72_51, tz_72_54, tz_72_55, tz_72_56, tz_72_59, tz_72_62, tz_72_63, tz_72_66, tz_72_67, tz_72_69, tz_72_72, tz_72_75, tz_72_76, tz_72_79, tz_72_80, tz_72_81, tz_72_82, tz_72_85, tz_72_87, tz_72_89, tz_72_92, tz_72_94, tz_72_97, tz_72_98, tz_72_100, tz_72_101, tz_72_103, tz_72_104, tz_72_106, tz_72_109, tk_127, tq_127_0, tq_i, tw_va_s, tw_va_n, tw_K_s, tw_K_n, and_true, true_and, and_false, false_and, true_or, or_true, not_true_eq_false, not_false_eq_true, ↓reduceIte, Nat.reduceEqDiff, hnum]
  refine tx_p_go hu hb hC a1 (fun mi2 w2 => ?_)
  simp only [tz_72_0, tz_72_1, tz_72_4, tz_72_5, tz_72_6, tz_72_9, tz_72_10, tz_72_12, tz_72_15, tz_72_18, tz_72_19, tz_72_22, tz_72_25, tz_72_28, tz_72_29, tz_72_32, tz_72_33, tz_72_34, tz_72_37, tz_72_39, tz_72_41, tz_72_42, tz_72_45, tz_72_46, tz_72_49, tz_72_51, tz_72_54, tz_72_55, tz_72_56, tz_72_59, tz_72_62, tz_72_63, tz_72_66, tz_72_67, tz_72_69, tz_72_72, tz_72_75, tz_72_76, tz_72_79, tz_72_80, tz_72_81, tz_72_82, tz_72_85, tz_72_87, tz_72_89, tz_72_92, tz_72_94, tz_72_97, tz_72_98, tz_72_100, tz_72_101, tz_72_103, tz_72_104, tz_72_106, tz_72_109, tk_127, tq_127_0, tq_i, tw_va_s, tw_va_n, tw_K_s, tw_K_n, and_true, true_and, and_false, false_and, true_or, or_true, not_true_eq_false, not_false_eq_true, ↓reduceIte, Nat.reduceEqDiff]
  have hrf : ∀ (mi : tw_I) (s : tx_S) (x4 x5 : Option Value), tx_RC mi0 mi n tp u s → (∀ mi', tx_RF mi0 mi' u (tx_pl n tp s.1) → Q (some (.int (-9))) tw_g0 mi' (tw_r0 t s' u)) → tw_E sc (D + 4) 72 28 [some (.ref 127), some (.int (nI r)), some (.int (nI e)), some (.int (nI (tx_nu n tp s1.1))), x4, x5] [] tw_g0 mi (tw_r0 t s' u) Q := by
    intro mi s x4 x5 hC hq
    simp only [tz_72_0, tz_72_1, tz_72_4, tz_72_5, tz_72_6, tz_72_9, tz_72_10, tz_72_12, tz_72_15, tz_72_18, tz_72_19, tz_72_22, tz_72_25, tz_72_28, tz_72_29, tz_72_32, tz_72_33, tz_72_34, tz_72_37, tz_72_39, tz_72_41, tz_72_42, tz_72_45, tz_72_46, tz_72_49, tz_72_51, tz_72_54, tz_72_55, tz_72_56, tz_72_59, tz_72_62, tz_72_63, tz_72_66, tz_72_67, tz_72_69, tz_72_72, tz_72_75, tz_72_76, tz_72_79, tz_72_80, tz_72_81, tz_72_82, tz_72_85, tz_72_87, tz_72_89, tz_72_92, tz_72_94, tz_72_97, tz_72_98, tz_72_100, tz_72_101, tz_72_103, tz_72_104, tz_72_106, tz_72_109, tk_127, tq_127_0, tq_i, tw_va_s, tw_va_n, tw_K_s, tw_K_n, and_true, true_and, and_false, false_and, true_or, or_true, not_true_eq_false, not_false_eq_true, ↓reduceIte, Nat.reduceEqDiff]
    refine tx_p_refuse hu hC (fun mi' h' => ?_)
    simp only [tz_72_0, tz_72_1, tz_72_4, tz_72_5, tz_72_6, tz_72_9, tz_72_10, tz_72_12, tz_72_15, tz_72_18, tz_72_19, tz_72_22, tz_72_25, tz_72_28, tz_72_29, tz_72_32, tz_72_33, tz_72_34, tz_72_37, tz_72_39, tz_72_41, tz_72_42, tz_72_45, tz_72_46, tz_72_49, tz_72_51, tz_72_54, tz_72_55, tz_72_56, tz_72_59, tz_72_62, tz_72_63, tz_72_66, tz_72_67, tz_72_69, tz_72_72, tz_72_75, tz_72_76, tz_72_79, tz_72_80, tz_72_81, tz_72_82, tz_72_85, tz_72_87, tz_72_89, tz_72_92, tz_72_94, tz_72_97, tz_72_98, tz_72_100, tz_72_101, tz_72_103, tz_72_104, tz_72_106, tz_72_109, tw_va_s, tw_va_n, tw_K_s, tw_K_n, and_true, true_and, and_false, false_and, true_or, or_true, not_true_eq_false, not_false_eq_true, ↓reduceIte, Nat.reduceEqDiff]
    exact hq mi' h'
  unfold tx_span at hQ
  refine tx_p_pass hu hb w2 a2 (c := 44) (by omega) tl44 (fun h44 mi3 w3 => ?_) (fun h44 => ?_)
  · rw [if_pos (show tx_to n tp (tx_ad n tp s1).1 = 44 from h44)] at hQ
    have v3 : mi3 127 2 = nI (tx_to n tp (tx_en n tp (tx_en n tp s1.1))) := w3.2.2.1.2.1
    have b2 := tx_en_lt (tp := tp) a2 (by rw [show tx_to n tp (tx_en n tp s1.1) = 44 from h44]; decide)
    simp only [tz_72_0, tz_72_1, tz_72_4, tz_72_5, tz_72_6, tz_72_9, tz_72_10, tz_72_12, tz_72_15, tz_72_18, tz_72_19, tz_72_22, tz_72_25, tz_72_28, tz_72_29, tz_72_32, tz_72_33, tz_72_34, tz_72_37, tz_72_39, tz_72_41, tz_72_42, tz_72_45, tz_72_46, tz_72_49, tz_72_51, tz_72_54, tz_72_55, tz_72_56, tz_72_59, tz_72_62, tz_72_63, tz_72_66, tz_72_67, tz_72_69, tz_72_72, tz_72_75, tz_72_76, tz_72_79, tz_72_80, tz_72_81, tz_72_82, tz_72_85, tz_72_87, tz_72_89, tz_72_92, tz_72_94, tz_72_97, tz_72_98, tz_72_100, tz_72_101, tz_72_103, tz_72_104, tz_72_106, tz_72_109, tk_127, tq_127_0, tq_i, tw_va_s, tw_va_n, tw_K_s, tw_K_n, and_true, true_and, and_false, false_and, true_or, or_true, not_true_eq_false, not_false_eq_true, ↓reduceIte, Nat.reduceEqDiff, v3, show ¬ (1 : Int32) = 0 by decide, tl256]
    by_cases h256 : tx_to n tp (tx_en n tp (tx_en n tp s1.1)) = 256
    · rw [if_pos (show tx_to n tp (tx_ad n tp (tx_ad n tp s1)).1 = 256 from h256)] at hQ
      rw [tw_eq_t h256]
      have hnum3 : mi3 127 3 = nI (tx_nu n tp (tx_en n tp (tx_en n tp s1.1))) := w3.2.2.1.2.2.2 h256
      have nu3 := tx_nu_ok h256 hb
      have b3 := tx_en_lt (tp := tp) a3 (by omega)
      have v7 : mi3 127 7 = s.2.2.2 := by rw [w3.2.2.2.2.1]; show s1.2.2.2 = _; rw [e2]
      have v4 : mi3 127 4 = nI (tx_pl n tp (tx_en n tp (tx_en n tp s1.1))) := w3.2.2.1.1
      simp only [tz_72_0, tz_72_1, tz_72_4, tz_72_5, tz_72_6, tz_72_9, tz_72_10, tz_72_12, tz_72_15, tz_72_18, tz_72_19, tz_72_22, tz_72_25, tz_72_28, tz_72_29, tz_72_32, tz_72_33, tz_72_34, tz_72_37, tz_72_39, tz_72_41, tz_72_42, tz_72_45, tz_72_46, tz_72_49, tz_72_51, tz_72_54, tz_72_55, tz_72_56, tz_72_59, tz_72_62, tz_72_63, tz_72_66, tz_72_67, tz_72_69, tz_72_72, tz_72_75, tz_72_76, tz_72_79, tz_72_80, tz_72_81, tz_72_82, tz_72_85, tz_72_87, tz_72_89, tz_72_92, tz_72_94, tz_72_97, tz_72_98, tz_72_100, tz_72_101, tz_72_103, tz_72_104, tz_72_106, tz_72_109, tk_127, tq_127_0, tq_i, tw_va_s, tw_va_n, tw_K_s, tw_K_n, and_true, true_and, and_false, false_and, true_or, or_true, not_true_eq_false, not_false_eq_true, ↓reduceIte, Nat.reduceEqDiff, hnum3, v7, v4]
      -- behind the place of a wrong span
      have key : ∀ (mi4 : tw_I) (sp : Int32), sp = (if tx_nu n tp (tx_en n tp (tx_en n tp s1.1)) < tx_nu n tp s1.1 ∧ s.2.2.2 = -9 then nI (tx_pl n tp (tx_en n tp (tx_en n tp s1.1))) else s.2.2.2) → tx_RC mi0 mi4 n tp u (tx_en n tp (tx_en n tp s1.1), s1.2.1, s1.2.2.1, sp) → tw_E sc (D + 3) 83 0 [some (.ref 127)] [] tw_g0 mi4 (tw_r0 t s' u) (tw_K sc (D + 3 + 1) 72 66 [some (.ref 127), some (.int (nI r)), some (.int (nI e)), some (.int (nI (tx_nu n tp s1.1))), some (.int (nI (tx_nu n tp (tx_en n tp (tx_en n tp s1.1))))), none] [] Q) := by
        intro mi4 sp hsp w4
        refine tx_p_go hu hb w4 a3 (fun mi5 w5 => ?_)
        simp only [tz_72_0, tz_72_1, tz_72_4, tz_72_5, tz_72_6, tz_72_9, tz_72_10, tz_72_12, tz_72_15, tz_72_18, tz_72_19, tz_72_22, tz_72_25, tz_72_28, tz_72_29, tz_72_32, tz_72_33, tz_72_34, tz_72_37, tz_72_39, tz_72_41, tz_72_42, tz_72_45, tz_72_46, tz_72_49, tz_72_51, tz_72_54, tz_72_55, tz_72_56, tz_72_59, tz_72_62, tz_72_63, tz_72_66, tz_72_67, tz_72_69, tz_72_72, tz_72_75, tz_72_76, tz_72_79, tz_72_80, tz_72_81, tz_72_82, tz_72_85, tz_72_87, tz_72_89, tz_72_92, tz_72_94, tz_72_97, tz_72_98, tz_72_100, tz_72_101, tz_72_103, tz_72_104, tz_72_106, tz_72_109, tk_127, tq_127_0, tq_i, tw_va_s, tw_va_n, tw_K_s, tw_K_n, and_true, true_and, and_false, false_and, true_or, or_true, not_true_eq_false, not_false_eq_true, ↓reduceIte, Nat.reduceEqDiff]
        refine tx_p_pass hu hb w5 a4 (c := 58) (by omega) tl58 (fun h58 mi6 w6 => ?_) (fun h58 => ?_)
        · rw [if_pos (show tx_to n tp (tx_ad n tp (tx_ad n tp (tx_ad n tp s1))).1 = 58 from h58)] at hQ
          have a5 := (tx_en_le (tp := tp) a4).2.1
          have b5 := tx_en_lt (tp := tp) a4 (by rw [show tx_to n tp (tx_en n tp (tx_en n tp (tx_en n tp s1.1))) = 58 from h58]; decide)
          simp only [tz_72_0, tz_72_1, tz_72_4, tz_72_5, tz_72_6, tz_72_9, tz_72_10, tz_72_12, tz_72_15, tz_72_18, tz_72_19, tz_72_22, tz_72_25, tz_72_28, tz_72_29, tz_72_32, tz_72_33, tz_72_34, tz_72_37, tz_72_39, tz_72_41, tz_72_42, tz_72_45, tz_72_46, tz_72_49, tz_72_51, tz_72_54, tz_72_55, tz_72_56, tz_72_59, tz_72_62, tz_72_63, tz_72_66, tz_72_67, tz_72_69, tz_72_72, tz_72_75, tz_72_76, tz_72_79, tz_72_80, tz_72_81, tz_72_82, tz_72_85, tz_72_87, tz_72_89, tz_72_92, tz_72_94, tz_72_97, tz_72_98, tz_72_100, tz_72_101, tz_72_103, tz_72_104, tz_72_106, tz_72_109, tk_127, tq_127_0, tq_i, tw_va_s, tw_va_n, tw_K_s, tw_K_n, and_true, true_and, and_false, false_and, true_or, or_true, not_true_eq_false, not_false_eq_true, ↓reduceIte, Nat.reduceEqDiff, show ¬ (1 : Int32) = 0 by decide]
          have hva : tx_va (tx_en n tp (tx_en n tp (tx_en n tp (tx_en n tp s1.1))), s1.2.1, s1.2.2.1, sp) := by
            unfold tx_va
            show ∀ k, k < s1.2.1 → tw_ok k (s1.2.2.1 k)
            rw [e2]
            exact m7
          have e3 : s1.2.1 = s.2.1 := by rw [e2]
          have hgd := hg (tx_en n tp (tx_en n tp (tx_en n tp (tx_en n tp s1.1))), s1.2.1, s1.2.2.1, sp) a5 hva
          have hsame : ((tx_ad n tp (tx_ad n tp (tx_ad n tp (tx_ad n tp s1)))).1, s1.2.1, s1.2.2.1, if tx_nu n tp (tx_ad n tp (tx_ad n tp s1)).1 < tx_nu n tp s1.1 ∧ s1.2.2.2 = -9 then nI (tx_pl n tp (tx_ad n tp (tx_ad n tp s1)).1) else s1.2.2.2) = ((tx_en n tp (tx_en n tp (tx_en n tp (tx_en n tp s1.1))), s1.2.1, s1.2.2.1, sp) : tx_S) := by
            rw [hsp, show s.2.2.2 = s1.2.2.2 by rw [e2]]
            rfl
          rw [hsame] at hQ
          refine H mi6 (tx_en n tp (tx_en n tp (tx_en n tp (tx_en n tp s1.1))), s1.2.1, s1.2.2.1, sp) _ (by show p0 ≤ tx_en n tp (tx_en n tp (tx_en n tp (tx_en n tp s1.1))); omega) a5 (by show s1.2.1 ≤ tx_en n tp (tx_en n tp (tx_en n tp (tx_en n tp s1.1))); omega) hva w6 (fun mi7 w7 => ?_)
          cases hr : g (tx_en n tp (tx_en n tp (tx_en n tp (tx_en n tp s1.1))), s1.2.1, s1.2.2.1, sp) with
          | inl e =>
            rw [tx_sn_l hr] at hQ
            rw [hr] at w7
            simp only [tz_72_0, tz_72_1, tz_72_4, tz_72_5, tz_72_6, tz_72_9, tz_72_10, tz_72_12, tz_72_15, tz_72_18, tz_72_19, tz_72_22, tz_72_25, tz_72_28, tz_72_29, tz_72_32, tz_72_33, tz_72_34, tz_72_37, tz_72_39, tz_72_41, tz_72_42, tz_72_45, tz_72_46, tz_72_49, tz_72_51, tz_72_54, tz_72_55, tz_72_56, tz_72_59, tz_72_62, tz_72_63, tz_72_66, tz_72_67, tz_72_69, tz_72_72, tz_72_75, tz_72_76, tz_72_79, tz_72_80, tz_72_81, tz_72_82, tz_72_85, tz_72_87, tz_72_89, tz_72_92, tz_72_94, tz_72_97, tz_72_98, tz_72_100, tz_72_101, tz_72_103, tz_72_104, tz_72_106, tz_72_109, tk_127, tq_127_0, tq_i, tw_va_s, tw_va_n, tw_K_s, tw_K_n, and_true, true_and, and_false, false_and, true_or, or_true, not_true_eq_false, not_false_eq_true, ↓reduceIte, Nat.reduceEqDiff, tx_ri_l, tx_nng]
            exact hQ mi7 w7
          | inr q =>
            obtain ⟨r2, s2⟩ := q
            rw [tx_sn_r hr] at hQ
            rw [hr] at w7 hgd
            obtain ⟨g1, g2, g3, g4, g5, g6, g7⟩ := hgd
            have g1' : tx_en n tp (tx_en n tp (tx_en n tp (tx_en n tp s1.1))) < s2.1 := g1
            have g3' : s2.2.1 + tx_en n tp (tx_en n tp (tx_en n tp (tx_en n tp s1.1))) ≤ s2.1 + s1.2.1 := g3
            have hr0 : (0 : Int32) ≤ nI r2 := Int32.not_lt.mp (nI_pos (by omega))
            simp only [tz_72_0, tz_72_1, tz_72_4, tz_72_5, tz_72_6, tz_72_9, tz_72_10, tz_72_12, tz_72_15, tz_72_18, tz_72_19, tz_72_22, tz_72_25, tz_72_28, tz_72_29, tz_72_32, tz_72_33, tz_72_34, tz_72_37, tz_72_39, tz_72_41, tz_72_42, tz_72_45, tz_72_46, tz_72_49, tz_72_51, tz_72_54, tz_72_55, tz_72_56, tz_72_59, tz_72_62, tz_72_63, tz_72_66, tz_72_67, tz_72_69, tz_72_72, tz_72_75, tz_72_76, tz_72_79, tz_72_80, tz_72_81, tz_72_82, tz_72_85, tz_72_87, tz_72_89, tz_72_92, tz_72_94, tz_72_97, tz_72_98, tz_72_100, tz_72_101, tz_72_103, tz_72_104, tz_72_106, tz_72_109, tk_127, tq_127_0, tq_i, tw_va_s, tw_va_n, tw_K_s, tw_K_n, and_true, true_and, and_false, false_and, true_or, or_true, not_true_eq_false, not_false_eq_true, ↓reduceIte, Nat.reduceEqDiff, tx_ri_r, hr0]
            refine tx_p_mk hu w7 (by omega) 7 tl7 (fun mi8 w8 => ?_)
            simp only [tz_72_0, tz_72_1, tz_72_4, tz_72_5, tz_72_6, tz_72_9, tz_72_10, tz_72_12, tz_72_15, tz_72_18, tz_72_19, tz_72_22, tz_72_25, tz_72_28, tz_72_29, tz_72_32, tz_72_33, tz_72_34, tz_72_37, tz_72_39, tz_72_41, tz_72_42, tz_72_45, tz_72_46, tz_72_49, tz_72_51, tz_72_54, tz_72_55, tz_72_56, tz_72_59, tz_72_62, tz_72_63, tz_72_66, tz_72_67, tz_72_69, tz_72_72, tz_72_75, tz_72_76, tz_72_79, tz_72_80, tz_72_81, tz_72_82, tz_72_85, tz_72_87, tz_72_89, tz_72_92, tz_72_94, tz_72_97, tz_72_98, tz_72_100, tz_72_101, tz_72_103, tz_72_104, tz_72_106, tz_72_109, tw_va_s, tw_va_n, tw_K_s, tw_K_n, and_true, true_and, and_false, false_and, true_or, or_true, not_true_eq_false, not_false_eq_true, ↓reduceIte, Nat.reduceEqDiff]
            exact hQ mi8 w8
        · rw [if_neg (show ¬ tx_to n tp (tx_ad n tp (tx_ad n tp (tx_ad n tp s1))).1 = 58 from h58)] at hQ
          simp only [tz_72_0, tz_72_1, tz_72_4, tz_72_5, tz_72_6, tz_72_9, tz_72_10, tz_72_12, tz_72_15, tz_72_18, tz_72_19, tz_72_22, tz_72_25, tz_72_28, tz_72_29, tz_72_32, tz_72_33, tz_72_34, tz_72_37, tz_72_39, tz_72_41, tz_72_42, tz_72_45, tz_72_46, tz_72_49, tz_72_51, tz_72_54, tz_72_55, tz_72_56, tz_72_59, tz_72_62, tz_72_63, tz_72_66, tz_72_67, tz_72_69, tz_72_72, tz_72_75, tz_72_76, tz_72_79, tz_72_80, tz_72_81, tz_72_82, tz_72_85, tz_72_87, tz_72_89, tz_72_92, tz_72_94, tz_72_97, tz_72_98, tz_72_100, tz_72_101, tz_72_103, tz_72_104, tz_72_106, tz_72_109, tk_127, tq_127_0, tq_i, tw_va_s, tw_va_n, tw_K_s, tw_K_n, and_true, true_and, and_false, false_and, true_or, or_true, not_true_eq_false, not_false_eq_true, ↓reduceIte, Nat.reduceEqDiff]
          refine tx_p_refuse hu w5 (fun mi6 h6 => ?_)
          simp only [tz_72_0, tz_72_1, tz_72_4, tz_72_5, tz_72_6, tz_72_9, tz_72_10, tz_72_12, tz_72_15, tz_72_18, tz_72_19, tz_72_22, tz_72_25, tz_72_28, tz_72_29, tz_72_32, tz_72_33, tz_72_34, tz_72_37, tz_72_39, tz_72_41, tz_72_42, tz_72_45, tz_72_46, tz_72_49, tz_72_51, tz_72_54, tz_72_55, tz_72_56, tz_72_59, tz_72_62, tz_72_63, tz_72_66, tz_72_67, tz_72_69, tz_72_72, tz_72_75, tz_72_76, tz_72_79, tz_72_80, tz_72_81, tz_72_82, tz_72_85, tz_72_87, tz_72_89, tz_72_92, tz_72_94, tz_72_97, tz_72_98, tz_72_100, tz_72_101, tz_72_103, tz_72_104, tz_72_106, tz_72_109, tw_va_s, tw_va_n, tw_K_s, tw_K_n, and_true, true_and, and_false, false_and, true_or, or_true, not_true_eq_false, not_false_eq_true, ↓reduceIte, Nat.reduceEqDiff]
          exact hQ mi6 h6
      by_cases hlt : tx_nu n tp (tx_en n tp (tx_en n tp s1.1)) < tx_nu n tp s1.1
      · rw [tw_le_f hlt (by omega)]
        by_cases h9 : s.2.2.2 = -9
        · simp only [h9, not_true_eq_false, ↓reduceIte]
          refine key _ (nI (tx_pl n tp (tx_en n tp (tx_en n tp s1.1)))) (by rw [if_pos ⟨hlt, h9⟩]) ?_
          obtain ⟨z0, z1, z2, z3, z4, z5, z6, z7⟩ := w3
          have nn : ∀ F a, a ≠ 127 → tw_st mi3 127 F a = mi3 a := fun F a ha => tw_st_n _ _ ha
          refine ⟨z0, ?_, ?_, ?_, ?_, ?_, ?_, ?_⟩
          · unfold tw_CT at z1 ⊢
            rw [nn _ 125 (by decide), nn _ 126 (by decide)]
            exact z1
          · unfold tx_CP at z2 ⊢
            rw [tw_st_s, tw_st_n _ _ (by decide), tw_st_n _ _ (by decide), tw_st_n _ _ (by decide), tw_st_n _ _ (by decide)]
            exact z2
          · rw [tw_st_s, tw_st_n _ _ (by decide)]; exact z3
          · rw [tw_st_s, tw_st_s]
          · rw [nn _ u (by omega)]; exact z5
          · intro k hk
            have hk2 : k < s1.2.1 := hk
            rw [nn _ (u + 2 + k) (by have := z0; have z0' : s1.2.1 ≤ 60 := z0; omega)]
            exact z6 k hk2
          · intro a ha h
            rw [nn _ a h]
            exact z7 a ha h
        · simp only [h9, not_false_eq_true, ↓reduceIte]
          refine key mi3 s.2.2.2 (by rw [if_neg (fun z => h9 z.2)]) ?_
          rw [show s.2.2.2 = s1.2.2.2 by rw [e2]]
          exact w3
      · rw [tw_le_t (by omega) (by omega)]
        refine key mi3 s.2.2.2 (by rw [if_neg (fun z => hlt z.1)]) ?_
        rw [show s.2.2.2 = s1.2.2.2 by rw [e2]]
        exact w3
    · rw [if_neg (show ¬ tx_to n tp (tx_ad n tp (tx_ad n tp s1)).1 = 256 from h256)] at hQ
      rw [tw_eq_f h256 (by omega) (by omega)]
      have z := hrf mi3 _ none none w3 hQ
      simp only [tz_72_0, tz_72_1, tz_72_4, tz_72_5, tz_72_6, tz_72_9, tz_72_10, tz_72_12, tz_72_15, tz_72_18, tz_72_19, tz_72_22, tz_72_25, tz_72_28, tz_72_29, tz_72_32, tz_72_33, tz_72_34, tz_72_37, tz_72_39, tz_72_41, tz_72_42, tz_72_45, tz_72_46, tz_72_49, tz_72_51, tz_72_54, tz_72_55, tz_72_56, tz_72_59, tz_72_62, tz_72_63, tz_72_66, tz_72_67, tz_72_69, tz_72_72, tz_72_75, tz_72_76, tz_72_79, tz_72_80, tz_72_81, tz_72_82, tz_72_85, tz_72_87, tz_72_89, tz_72_92, tz_72_94, tz_72_97, tz_72_98, tz_72_100, tz_72_101, tz_72_103, tz_72_104, tz_72_106, tz_72_109, tk_127, tq_127_0, tq_i, tw_va_s, tw_va_n, tw_K_s, tw_K_n, and_true, true_and, and_false, false_and, true_or, or_true, not_true_eq_false, not_false_eq_true, ↓reduceIte, Nat.reduceEqDiff] at z
      exact z
  · rw [if_neg (show ¬ tx_to n tp (tx_ad n tp s1).1 = 44 from h44)] at hQ
    have z := hrf mi2 _ none none w2 hQ
    simp only [tz_72_0, tz_72_1, tz_72_4, tz_72_5, tz_72_6, tz_72_9, tz_72_10, tz_72_12, tz_72_15, tz_72_18, tz_72_19, tz_72_22, tz_72_25, tz_72_28, tz_72_29, tz_72_32, tz_72_33, tz_72_34, tz_72_37, tz_72_39, tz_72_41, tz_72_42, tz_72_45, tz_72_46, tz_72_49, tz_72_51, tz_72_54, tz_72_55, tz_72_56, tz_72_59, tz_72_62, tz_72_63, tz_72_66, tz_72_67, tz_72_69, tz_72_72, tz_72_75, tz_72_76, tz_72_79, tz_72_80, tz_72_81, tz_72_82, tz_72_85, tz_72_87, tz_72_89, tz_72_92, tz_72_94, tz_72_97, tz_72_98, tz_72_100, tz_72_101, tz_72_103, tz_72_104, tz_72_106, tz_72_109, tk_127, tq_127_0, tq_i, tw_va_s, tw_va_n, tw_K_s, tw_K_n, and_true, true_and, and_false, false_and, true_or, or_true, not_true_eq_false, not_false_eq_true, ↓reduceIte, Nat.reduceEqDiff] at z
    simp only [tz_72_0, tz_72_1, tz_72_4, tz_72_5, tz_72_6, tz_72_9, tz_72_10, tz_72_12, tz_72_15, tz_72_18, tz_72_19, tz_72_22, tz_72_25, tz_72_28, tz_72_29, tz_72_32, tz_72_33, tz_72_34, tz_72_37, tz_72_39, tz_72_41, tz_72_42, tz_72_45, tz_72_46, tz_72_49, tz_72_51, tz_72_54, tz_72_55, tz_72_56, tz_72_59, tz_72_62, tz_72_63, tz_72_66, tz_72_67, tz_72_69, tz_72_72, tz_72_75, tz_72_76, tz_72_79, tz_72_80, tz_72_81, tz_72_82, tz_72_85, tz_72_87, tz_72_89, tz_72_92, tz_72_94, tz_72_97, tz_72_98, tz_72_100, tz_72_101, tz_72_103, tz_72_104, tz_72_106, tz_72_109, tk_127, tq_127_0, tq_i, tw_va_s, tw_va_n, tw_K_s, tw_K_n, and_true, true_and, and_false, false_and, true_or, or_true, not_true_eq_false, not_false_eq_true, ↓reduceIte, Nat.reduceEqDiff]
    exact z
end tw_crow
