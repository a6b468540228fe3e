/-! the class reads: a row, and one -/
section tw_cone
variable {sc : Nat × (Nat → Int32)} {d t s' i n u p0 : Nat} {mi mi0 : tw_I} {Q : Option Value → tw_G → tw_I → tw_Q → Prop} {tp : Nat → Nat} {s : tx_S}
set_option maxRecDepth 100000 in
theorem tx_p_rowx {d' : Nat} (x1 : Option Value) {k : Nat} (hk : k ≤ 60) : tw_E sc d' 70 8 [some (.ref 127), x1, some (.int (-9)), some (.int (nI k))] [] tw_g0 mi (tw_r0 t s' i) Q = Q (some (.int (-9))) tw_g0 mi (tw_r0 t s' i) := by
  rw [tz_70_8]
  simp only [tz_70_0, tz_70_1, tz_70_2, tz_70_5, tz_70_6, tz_70_7, tz_70_9, tz_70_11, tz_70_14, tz_70_15, tz_70_18, tz_70_19, tz_70_22, tz_70_24, tz_70_27, tz_70_28, tz_70_31, tz_70_32, tz_70_35, tz_70_38, tz_70_41, tz_70_42, tz_70_45, tz_70_48, tz_70_49, tz_70_50, tz_70_51, tz_70_54, tz_70_57, tz_70_58, tz_70_59, tz_70_60, tz_70_63, tz_70_64, tz_70_67, tz_70_70, tz_70_71, tw_va_s, tw_va_n, tw_K_s, tw_K_n, and_true, true_and, and_false, false_and, true_or, or_true, not_true_eq_false, not_false_eq_true, ↓reduceIte, Nat.reduceEqDiff, tx_neg, ite_self]
set_option maxRecDepth 100000 in
theorem tx_then_gd {g : tx_S → tx_R} (hb : tx_G n g) {s s1 : tx_S} {r : Nat} (hm : tx_md n s r s1) (ht : ¬ tx_to n tp s1.1 = 257) : tx_gd n s (tx_then n tp g r (tx_ad n tp s1)) := by
  have hb := tx_eith_gd (tp := tp) hb
  have l1 := tx_en_lt hm.2.1 ht
  have l2 := (tx_en_le (tp := tp) hm.2.1).2.1
  have l3 := tx_pl_le (tp := tp) l2
  have l4 := tx_en_le (tp := tp) l2
  have l5 := tx_pl_le (tp := tp) l4.2.1
  have l6 := tx_en_le (tp := tp) l4.2.1
  have l7 := tx_pl_le (tp := tp) l6.2.1
  have l8 := tx_en_le (tp := tp) l6.2.1
  have l9 := tx_pl_le (tp := tp) l8.2.1
  have l10 := tx_en_le (tp := tp) l8.2.1
  unfold tx_then
  split
  · unfold tx_span
    split
    · split
      · split
        · exact tx_sn_gd hb (Or.inr (Or.inr (Or.inr rfl))) hm (by show s1.1 < tx_en n tp (tx_en n tp (tx_en n tp (tx_en n tp (tx_en n tp s1.1)))); omega) l10.2.1 rfl rfl
        · exact l9.2
      · exact l7.2
    · exact l5.2
  · exact tx_sn_gd hb (Or.inr (Or.inr (Or.inl rfl))) hm l1 l2 rfl rfl
set_option maxRecDepth 100000 in
theorem tx_p_rowl {D e : Nat} {g : tx_S → tx_R} (hu : u = 1 ∨ u = 63) (hb : ∀ j, j < n → tp j < 256) (hg : tx_G n g) (H : tx_H sc (D + 3) 73 [some (.ref 127), some (.int (nI e)), none, none, none] mi0 n tp u t s' p0 (tx_eith n tp g)) : ∀ f k r s0 s1 (mi : tw_I) (Q : Option Value → tw_G → tw_I → tw_Q → Prop), 60 = k + f → p0 ≤ s0.1 → s0.2.1 ≤ s0.1 → tx_md n s0 r s1 → tx_RC mi0 mi n tp u s1 →
    (∀ mi', tx_RR mi0 mi' n tp u (tx_lp n tp 59 (tx_then n tp g) f r s1) → Q (some (.int (tx_ri (tx_lp n tp 59 (tx_then n tp g) f r s1)))) tw_g0 mi' (tw_r0 t s' u)) →
    tw_E sc (D + 5) 70 8 [some (.ref 127), some (.int (nI e)), some (.int (nI r)), some (.int (nI k))] [] tw_g0 mi (tw_r0 t s' u) Q := by
  have heg := tx_eith_gd (tp := tp) hg
  intro f
  induction f with
  | zero =>
    intro k r s0 s1 mi Q hk hp hM hm hC hQ
    rw [tz_70_8]
    simp only [tz_70_0, tz_70_1, tz_70_2, tz_70_5, tz_70_6, tz_70_7, tz_70_9, tz_70_11, tz_70_14, tz_70_15, tz_70_18, tz_70_19, tz_70_22, tz_70_24, tz_70_27, tz_70_28, tz_70_31, tz_70_32, tz_70_35, tz_70_38, tz_70_41, tz_70_42, tz_70_45, tz_70_48, tz_70_49, tz_70_50, tz_70_51, tz_70_54, tz_70_57, tz_70_58, tz_70_59, tz_70_60, tz_70_63, tz_70_64, tz_70_67, tz_70_70, tz_70_71, tw_va_s, tw_va_n, tw_K_s, tw_K_n, and_true, true_and, and_false, false_and, true_or, or_true, not_true_eq_false, not_false_eq_true, ↓reduceIte, Nat.reduceEqDiff, tl60]
    rw [tw_le_t (by omega) (by omega)]
    exact hQ mi hC
  | succ f ih =>
    intro k r s0 s1 mi Q hk hp hM hm hC hQ
    have hmm := hm
    obtain ⟨m1, m2, m3, m4, m5, m6, m7⟩ := hm
    have hn := hC.2.1.1
    have hl := tx_to_lt hb s1.1
    have l2 := tx_en_le (tp := tp) m2
    have l3 := tx_pl_le (tp := tp) m2
    rw [tz_70_8]
    simp only [tz_70_0, tz_70_1, tz_70_2, tz_70_5, tz_70_6, tz_70_7, tz_70_9, tz_70_11, tz_70_14, tz_70_15, tz_70_18, tz_70_19, tz_70_22, tz_70_24, tz_70_27, tz_70_28, tz_70_31, tz_70_32, tz_70_35, tz_70_38, tz_70_41, tz_70_42, tz_70_45, tz_70_48, tz_70_49, tz_70_50, tz_70_51, tz_70_54, tz_70_57, tz_70_58, tz_70_59, tz_70_60, tz_70_63, tz_70_64, tz_70_67, tz_70_70, tz_70_71, tk_127, tq_127_0, tq_i, tw_va_s, tw_va_n, tw_K_s, tw_K_n, and_true, true_and, and_false, false_and, true_or, or_true, not_true_eq_false, not_false_eq_true, ↓reduceIte, Nat.reduceEqDiff, tl60, tl59, hC.2.2.1.2.1]
    rw [tw_le_f (by omega) (by omega), if_neg (nI_pos (by omega))]
    by_cases ht : tx_to n tp s1.1 = 59
    · rw [tw_ne_f ht]
      have l1 := tx_en_lt (tp := tp) m2 (by omega)
      have hsn := tx_then_gd (tp := tp) hg hmm (by omega)
      have hl' := tx_to_lt hb (tx_en n tp s1.1)
      have l4 := tx_en_le (tp := tp) l2.2.1
      -- what follows once the part behind the ; has answered
      have fin : ∀ mi2, tx_RR mi0 mi2 n tp u (tx_then n tp g r (tx_ad n tp s1)) → tw_E sc (D + 5) 70 8 [some (.ref 127), some (.int (nI e)), some (.int (tx_ri (tx_then n tp g r (tx_ad n tp s1)))), some (.int (nI (k + 1)))] [] tw_g0 mi2 (tw_r0 t s' u) Q := by
        intro mi2 h2
        cases hr : tx_then n tp g r (tx_ad n tp s1) with
        | inl e =>
          rw [tx_lp_l ht hr] at hQ
          rw [hr] at h2
          rw [tx_ri_l, tx_p_rowx _ (by omega)]
          exact hQ mi2 h2
        | inr q =>
          obtain ⟨r2, s2⟩ := q
          rw [tx_lp_r ht hr] at hQ
          rw [hr] at h2 hsn
          rw [tx_ri_r]
          exact ih (k + 1) r2 s0 s2 mi2 Q (by omega) hp hM (tx_md_of hsn) h2 hQ
      refine tx_p_go hu hb hC m2 (fun mi' h' => ?_)
      have v2 : mi' 127 2 = nI (tx_to n tp (tx_en n tp s1.1)) := h'.2.2.1.2.1
      have v5 : mi' 127 5 = nI (tx_en n tp (tx_en n tp s1.1)) := h'.2.2.1.2.2.1
      simp only [tz_70_0, tz_70_1, tz_70_2, tz_70_5, tz_70_6, tz_70_7, tz_70_9, tz_70_11, tz_70_14, tz_70_15, tz_70_18, tz_70_19, tz_70_22, tz_70_24, tz_70_27, tz_70_28, tz_70_31, tz_70_32, tz_70_35, tz_70_38, tz_70_41, tz_70_42, tz_70_45, tz_70_48, tz_70_49, tz_70_50, tz_70_51, tz_70_54, tz_70_57, tz_70_58, tz_70_59, tz_70_60, tz_70_63, tz_70_64, tz_70_67, tz_70_70, tz_70_71, tk_127, tq_127_0, tq_i, tw_va_s, tw_va_n, tw_K_s, tw_K_n, and_true, true_and, and_false, false_and, true_or, or_true, not_true_eq_false, not_false_eq_true, ↓reduceIte, Nat.reduceEqDiff, v2, tl256, nI_1]
      have arm : tx_then n tp g r (tx_ad n tp s1) = tx_sn (tx_eith n tp g) 6 (-9) (-9) r (tx_ad n tp s1) → tw_E sc (D + 4) 71 0 [some (.ref 127), some (.int (nI r)), some (.int (nI e)), none] [] tw_g0 mi' (tw_r0 t s' u) (tw_K sc (D + 4 + 1) 70 63 [some (.ref 127), some (.int (nI e)), some (.int (nI r)), some (.int (nI k))] [] Q) := by
        intro he
        refine tx_p_armed (D := D + 1) (s := tx_ad n tp s1) hu heg H hmm hM hp l1 l2.2.1 rfl rfl h' (fun mi2 h2 => ?_)
        rw [← he] at h2 ⊢
        simp only [tz_70_0, tz_70_1, tz_70_2, tz_70_5, tz_70_6, tz_70_7, tz_70_9, tz_70_11, tz_70_14, tz_70_15, tz_70_18, tz_70_19, tz_70_22, tz_70_24, tz_70_27, tz_70_28, tz_70_31, tz_70_32, tz_70_35, tz_70_38, tz_70_41, tz_70_42, tz_70_45, tz_70_48, tz_70_49, tz_70_50, tz_70_51, tz_70_54, tz_70_57, tz_70_58, tz_70_59, tz_70_60, tz_70_63, tz_70_64, tz_70_67, tz_70_70, tz_70_71, tk_127, tq_127_0, tq_i, tw_va_s, tw_va_n, tw_K_s, tw_K_n, and_true, true_and, and_false, false_and, true_or, or_true, not_true_eq_false, not_false_eq_true, ↓reduceIte, Nat.reduceEqDiff, nI_1]
        exact fin mi2 h2
      by_cases h256 : tx_to n tp (tx_en n tp s1.1) = 256
      · rw [tw_ne_f h256, tw_p_star h'.2.1 hb l4.2.1 v5]
        by_cases h42 : tx_to n tp (tx_en n tp (tx_en n tp s1.1)) = 42
        · simp only [h42, tz_70_0, tz_70_1, tz_70_2, tz_70_5, tz_70_6, tz_70_7, tz_70_9, tz_70_11, tz_70_14, tz_70_15, tz_70_18, tz_70_19, tz_70_22, tz_70_24, tz_70_27, tz_70_28, tz_70_31, tz_70_32, tz_70_35, tz_70_38, tz_70_41, tz_70_42, tz_70_45, tz_70_48, tz_70_49, tz_70_50, tz_70_51, tz_70_54, tz_70_57, tz_70_58, tz_70_59, tz_70_60, tz_70_63, tz_70_64, tz_70_67, tz_70_70, tz_70_71, tk_127, tq_127_0, tq_i, tw_va_s, tw_va_n, tw_K_s, tw_K_n, and_true, true_and, and_false, false_and, true_or, or_true, not_true_eq_false, not_false_eq_true, ↓reduceIte, Nat.reduceEqDiff, show ¬ (1 : Int32) = 0 by decide]
          refine arm ?_
          unfold tx_then
          rw [if_neg (fun z => z.2 h42)]
        · simp only [h42, tz_70_0, tz_70_1, tz_70_2, tz_70_5, tz_70_6, tz_70_7, tz_70_9, tz_70_11, tz_70_14, tz_70_15, tz_70_18, tz_70_19, tz_70_22, tz_70_24, tz_70_27, tz_70_28, tz_70_31, tz_70_32, tz_70_35, tz_70_38, tz_70_41, tz_70_42, tz_70_45, tz_70_48, tz_70_49, tz_70_50, tz_70_51, tz_70_54, tz_70_57, tz_70_58, tz_70_59, tz_70_60, tz_70_63, tz_70_64, tz_70_67, tz_70_70, tz_70_71, tk_127, tq_127_0, tq_i, tw_va_s, tw_va_n, tw_K_s, tw_K_n, and_true, true_and, and_false, false_and, true_or, or_true, not_true_eq_false, not_false_eq_true, ↓reduceIte, Nat.reduceEqDiff]
          have he : tx_then n tp g r (tx_ad n tp s1) = tx_span n tp (tx_eith n tp g) r (tx_ad n tp s1) := by
            unfold tx_then
            rw [if_pos ⟨h256, h42⟩]
          refine tx_p_timed hu hb heg H hmm hM hp rfl (by omega) h' h256 (fun mi2 h2 => ?_)
          rw [← he] at h2 ⊢
          simp only [tz_70_0, tz_70_1, tz_70_2, tz_70_5, tz_70_6, tz_70_7, tz_70_9, tz_70_11, tz_70_14, tz_70_15, tz_70_18, tz_70_19, tz_70_22, tz_70_24, tz_70_27, tz_70_28, tz_70_31, tz_70_32, tz_70_35, tz_70_38, tz_70_41, tz_70_42, tz_70_45, tz_70_48, tz_70_49, tz_70_50, tz_70_51, tz_70_54, tz_70_57, tz_70_58, tz_70_59, tz_70_60, tz_70_63, tz_70_64, tz_70_67, tz_70_70, tz_70_71, tk_127, tq_127_0, tq_i, tw_va_s, tw_va_n, tw_K_s, tw_K_n, and_true, true_and, and_false, false_and, true_or, or_true, not_true_eq_false, not_false_eq_true, ↓reduceIte, Nat.reduceEqDiff, nI_1]
          exact fin mi2 h2
      · rw [tw_ne_t h256 (by omega) (by omega)]
        refine arm ?_
        unfold tx_then
        rw [if_neg (fun z => h256 z.1)]
    · rw [tw_ne_t ht (by omega) (by omega)]
      rw [tx_lp_n ht] at hQ
      exact hQ mi hC
set_option maxRecDepth 100000 in
theorem tx_p_row {D e : Nat} {g : tx_S → tx_R} (hu : u = 1 ∨ u = 63) (hb : ∀ j, j < n → tp j < 256) (hg : tx_G n g) (H : tx_H sc (D + 3) 73 [some (.ref 127), some (.int (nI e)), none, none, none] mi0 n tp u t s' p0 (tx_eith n tp g)) (H' : tx_H sc (D + 4) 73 [some (.ref 127), some (.int (nI e)), none, none, none] mi0 n tp u t s' p0 (tx_eith n tp g)) : tx_H sc (D + 5) 70 [some (.ref 127), some (.int (nI e)), none, none] mi0 n tp u t s' p0 (tx_row n tp g) := by
  intro mi s Q hp hs hM hv hC hQ
  have hgd := tx_eith_gd (tp := tp) hg s hs hv
  unfold tx_row at hQ
  simp only [tz_70_0, tz_70_1, tz_70_2, tz_70_5, tz_70_6, tz_70_7, tz_70_9, tz_70_11, tz_70_14, tz_70_15, tz_70_18, tz_70_19, tz_70_22, tz_70_24, tz_70_27, tz_70_28, tz_70_31, tz_70_32, tz_70_35, tz_70_38, tz_70_41, tz_70_42, tz_70_45, tz_70_48, tz_70_49, tz_70_50, tz_70_51, tz_70_54, tz_70_57, tz_70_58, tz_70_59, tz_70_60, tz_70_63, tz_70_64, tz_70_67, tz_70_70, tz_70_71, tk_127, tq_127_0, tq_i, tw_va_s, tw_va_n, tw_K_s, tw_K_n, and_true, true_and, and_false, false_and, true_or, or_true, not_true_eq_false, not_false_eq_true, ↓reduceIte, Nat.reduceEqDiff]
  refine H' mi s _ hp hs hM hv hC (fun mi2 h2 => ?_)
  cases hr : tx_eith n tp g s with
  | inl e =>
    rw [hr] at hQ h2
    simp only [tz_70_0, tz_70_1, tz_70_2, tz_70_5, tz_70_6, tz_70_7, tz_70_9, tz_70_11, tz_70_14, tz_70_15, tz_70_18, tz_70_19, tz_70_22, tz_70_24, tz_70_27, tz_70_28, tz_70_31, tz_70_32, tz_70_35, tz_70_38, tz_70_41, tz_70_42, tz_70_45, tz_70_48, tz_70_49, tz_70_50, tz_70_51, tz_70_54, tz_70_57, tz_70_58, tz_70_59, tz_70_60, tz_70_63, tz_70_64, tz_70_67, tz_70_70, tz_70_71, tk_127, tq_127_0, tq_i, tw_va_s, tw_va_n, tw_K_s, tw_K_n, and_true, true_and, and_false, false_and, true_or, or_true, not_true_eq_false, not_false_eq_true, ↓reduceIte, Nat.reduceEqDiff, tx_ri_l]
    rw [tl0, tx_p_rowx _ (by omega)]
    exact hQ mi2 h2
  | inr q =>
    obtain ⟨r2, s2⟩ := q
    rw [hr] at hQ h2 hgd
    simp only [tz_70_0, tz_70_1, tz_70_2, tz_70_5, tz_70_6, tz_70_7, tz_70_9, tz_70_11, tz_70_14, tz_70_15, tz_70_18, tz_70_19, tz_70_22, tz_70_24, tz_70_27, tz_70_28, tz_70_31, tz_70_32, tz_70_35, tz_70_38, tz_70_41, tz_70_42, tz_70_45, tz_70_48, tz_70_49, tz_70_50, tz_70_51, tz_70_54, tz_70_57, tz_70_58, tz_70_59, tz_70_60, tz_70_63, tz_70_64, tz_70_67, tz_70_70, tz_70_71, tk_127, tq_127_0, tq_i, tw_va_s, tw_va_n, tw_K_s, tw_K_n, and_true, true_and, and_false, false_and, true_or, or_true, not_true_eq_false, not_false_eq_true, ↓reduceIte, Nat.reduceEqDiff, tx_ri_r]
    rw [tl0]
    exact tx_p_rowl hu hb hg H 60 0 r2 s s2 mi2 Q rfl hp hM (tx_md_of hgd) h2 hQ
end tw_cone
