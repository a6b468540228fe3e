/-! the class reads: both, either, a row -/
section tw_crows
variable {sc : Nat × (Nat → Int32)} {d t s' i n u p0 : Nat} {mi mi0 : tw_I} {Q : Option Value → tw_G → tw_I → tw_Q → Prop} {tp : Nat → Nat} {s : tx_S}
set_option maxRecDepth 100000 in
theorem tx_md_of {s s' : tx_S} {r : Nat} (h : tx_gd n s (.inr (r, s'))) : tx_md n s r s' := h
set_option maxRecDepth 100000 in
theorem tx_sn_l {g : tx_S → tx_R} {kd : Nat} {lo hi : Int32} {r : Nat} {s : tx_S} {e : Nat} (h : g s = .inl e) : tx_sn g kd lo hi r s = .inl e := by
  unfold tx_sn
  rw [h]
set_option maxRecDepth 100000 in
theorem tx_sn_r {g : tx_S → tx_R} {kd : Nat} {lo hi : Int32} {r : Nat} {s : tx_S} {r2 : Nat} {s2 : tx_S} (h : g s = .inr (r2, s2)) : tx_sn g kd lo hi r s = tx_mk kd (nI r) (nI r2) lo hi s2 := by
  unfold tx_sn
  rw [h]
set_option maxRecDepth 100000 in
theorem tx_lp_n {c : Nat} {h : Nat → tx_S → tx_R} {k r : Nat} {s : tx_S} (hc : ¬ tx_to n tp s.1 = c) : tx_lp n tp c h k r s = .inr (r, s) := by
  cases k with
  | zero => rfl
  | succ k => rw [tx_lp, if_neg hc]
set_option maxRecDepth 100000 in
theorem tx_lp_l {c : Nat} {h : Nat → tx_S → tx_R} {k r : Nat} {s : tx_S} {e : Nat} (hc : tx_to n tp s.1 = c) (hh : h r (tx_ad n tp s) = .inl e) : tx_lp n tp c h (k + 1) r s = .inl e := by
  rw [tx_lp, if_pos hc, hh]
set_option maxRecDepth 100000 in
theorem tx_lp_r {c : Nat} {h : Nat → tx_S → tx_R} {k r : Nat} {s : tx_S} {r2 : Nat} {s2 : tx_S} (hc : tx_to n tp s.1 = c) (hh : h r (tx_ad n tp s) = .inr (r2, s2)) : tx_lp n tp c h (k + 1) r s = tx_lp n tp c h k r2 s2 := by
  rw [tx_lp, if_pos hc, hh]
set_option maxRecDepth 100000 in
theorem tx_p_bothx {d' : Nat} (x1 x2 : Option Value) {k : Nat} (hk : k ≤ 60) : tw_E sc d' 74 8 [some (.ref 127), x1, some (.int (-9)), some (.int (nI k)), x2] [] tw_g0 mi (tw_r0 t s' i) Q = Q (some (.int (-9))) tw_g0 mi (tw_r0 t s' i) := by
  rw [tz_74_8]
  simp only [tz_74_0, tz_74_1, tz_74_2, tz_74_5, tz_74_6, tz_74_7, tz_74_9, tz_74_11, tz_74_14, tz_74_15, tz_74_18, tz_74_19, tz_74_22, tz_74_24, tz_74_27, tz_74_28, tz_74_31, tz_74_32, tz_74_33, tz_74_36, tz_74_38, tz_74_40, tz_74_43, tz_74_45, tz_74_48, tz_74_49, tz_74_50, tz_74_51, tz_74_53, tz_74_55, tz_74_57, tz_74_60, tz_74_61, tz_74_64, tz_74_67, tz_74_68, tw_va_s, tw_va_n, tw_K_s, tw_K_n, and_true, true_and, and_false, false_and, true_or, or_true, not_true_eq_false, not_false_eq_true, ↓reduceIte, Nat.reduceEqDiff, tx_neg, ite_self]
set_option maxRecDepth 100000 in
theorem tx_p_bothl {D e : Nat} {g : tx_S → tx_R} (hu : u = 1 ∨ u = 63) (hb : ∀ j, j < n → tp j < 256) (hg : tx_G n g) (H : tx_H sc (D + 2) 75 [some (.ref 127), some (.int (nI e))] mi0 n tp u t s' p0 g) : ∀ f k r s0 s1 (mi : tw_I) (Q : Option Value → tw_G → tw_I → tw_Q → Prop) (x2 : Option Value), 60 = k + f → p0 ≤ s0.1 → s0.2.1 ≤ s0.1 → tx_md n s0 r s1 → tx_RC mi0 mi n tp u s1 →
    (∀ mi', tx_RR mi0 mi' n tp u (tx_lp n tp 38 (tx_sn g 3 (-9) (-9)) f r s1) → Q (some (.int (tx_ri (tx_lp n tp 38 (tx_sn g 3 (-9) (-9)) f r s1)))) tw_g0 mi' (tw_r0 t s' u)) →
    tw_E sc (D + 3) 74 8 [some (.ref 127), some (.int (nI e)), some (.int (nI r)), some (.int (nI k)), x2] [] tw_g0 mi (tw_r0 t s' u) Q := by
  intro f
  induction f with
  | zero =>
    intro k r s0 s1 mi Q x2 hk hp hM hm hC hQ
    rw [tz_74_8]
    simp only [tz_74_0, tz_74_1, tz_74_2, tz_74_5, tz_74_6, tz_74_7, tz_74_9, tz_74_11, tz_74_14, tz_74_15, tz_74_18, tz_74_19, tz_74_22, tz_74_24, tz_74_27, tz_74_28, tz_74_31, tz_74_32, tz_74_33, tz_74_36, tz_74_38, tz_74_40, tz_74_43, tz_74_45, tz_74_48, tz_74_49, tz_74_50, tz_74_51, tz_74_53, tz_74_55, tz_74_57, tz_74_60, tz_74_61, tz_74_64, tz_74_67, tz_74_68, tw_va_s, tw_va_n, tw_K_s, tw_K_n, and_true, true_and, and_false, false_and, true_or, or_true, not_true_eq_false, not_false_eq_true, ↓reduceIte, Nat.reduceEqDiff, tl60]
    rw [tw_le_t (by omega) (by omega)]
    exact hQ mi hC
  | succ f ih =>
    intro k r s0 s1 mi Q x2 hk hp hM hm hC hQ
    obtain ⟨m1, m2, m3, m4, m5, m6, m7⟩ := hm
    have hn := hC.2.1.1
    have hl := tx_to_lt hb s1.1
    have l2 := tx_en_le (tp := tp) m2
    have l3 := tx_pl_le (tp := tp) m2
    rw [tz_74_8]
    simp only [tz_74_0, tz_74_1, tz_74_2, tz_74_5, tz_74_6, tz_74_7, tz_74_9, tz_74_11, tz_74_14, tz_74_15, tz_74_18, tz_74_19, tz_74_22, tz_74_24, tz_74_27, tz_74_28, tz_74_31, tz_74_32, tz_74_33, tz_74_36, tz_74_38, tz_74_40, tz_74_43, tz_74_45, tz_74_48, tz_74_49, tz_74_50, tz_74_51, tz_74_53, tz_74_55, tz_74_57, tz_74_60, tz_74_61, tz_74_64, tz_74_67, tz_74_68, tk_127, tq_127_0, tq_i, tw_va_s, tw_va_n, tw_K_s, tw_K_n, and_true, true_and, and_false, false_and, true_or, or_true, not_true_eq_false, not_false_eq_true, ↓reduceIte, Nat.reduceEqDiff, tl60, tl38, hC.2.2.1.2.1]
    rw [tw_le_f (by omega) (by omega), if_neg (nI_pos (by omega))]
    by_cases ht : tx_to n tp s1.1 = 38
    · rw [tw_ne_f ht]
      have l1 := tx_en_lt (tp := tp) m2 (by omega)
      have hsn := tx_sn_gd hg (kd := 3) (lo := -9) (hi := -9) (Or.inl rfl) ⟨m1, m2, m3, m4, m5, m6, m7⟩ (s2 := tx_ad n tp s1) l1 l2.2.1 rfl rfl
      have hgd := hg (tx_ad n tp s1) l2.2.1 m7
      refine tx_p_go hu hb hC m2 (fun mi' h' => ?_)
      simp only [tz_74_0, tz_74_1, tz_74_2, tz_74_5, tz_74_6, tz_74_7, tz_74_9, tz_74_11, tz_74_14, tz_74_15, tz_74_18, tz_74_19, tz_74_22, tz_74_24, tz_74_27, tz_74_28, tz_74_31, tz_74_32, tz_74_33, tz_74_36, tz_74_38, tz_74_40, tz_74_43, tz_74_45, tz_74_48, tz_74_49, tz_74_50, tz_74_51, tz_74_53, tz_74_55, tz_74_57, tz_74_60, tz_74_61, tz_74_64, tz_74_67, tz_74_68, tk_127, tq_127_0, tq_i, tw_va_s, tw_va_n, tw_K_s, tw_K_n, and_true, true_and, and_false, false_and, true_or, or_true, not_true_eq_false, not_false_eq_true, ↓reduceIte, Nat.reduceEqDiff]
      refine H mi' (tx_ad n tp s1) _ (by show p0 ≤ tx_en n tp s1.1; omega) l2.2.1 (by show s1.2.1 ≤ tx_en n tp s1.1; omega) m7 h' (fun mi2 h2 => ?_)
      cases hr : g (tx_ad n tp s1) with
      | inl e =>
        rw [tx_lp_l ht (tx_sn_l hr)] at hQ
        rw [hr] at h2
        simp only [tz_74_0, tz_74_1, tz_74_2, tz_74_5, tz_74_6, tz_74_7, tz_74_9, tz_74_11, tz_74_14, tz_74_15, tz_74_18, tz_74_19, tz_74_22, tz_74_24, tz_74_27, tz_74_28, tz_74_31, tz_74_32, tz_74_33, tz_74_36, tz_74_38, tz_74_40, tz_74_43, tz_74_45, tz_74_48, tz_74_49, tz_74_50, tz_74_51, tz_74_53, tz_74_55, tz_74_57, tz_74_60, tz_74_61, tz_74_64, tz_74_67, tz_74_68, tk_127, tq_127_0, tq_i, tw_va_s, tw_va_n, tw_K_s, tw_K_n, and_true, true_and, and_false, false_and, true_or, or_true, not_true_eq_false, not_false_eq_true, ↓reduceIte, Nat.reduceEqDiff, tx_ri_l, tx_nng, nI_1]
        rw [tx_p_bothx _ _ (by omega)]
        exact hQ mi2 h2
      | inr q =>
        obtain ⟨r2, s2⟩ := q
        rw [tx_lp_r ht (tx_sn_r hr)] at hQ
        rw [hr] at h2 hgd
        rw [tx_sn_r hr] at hsn
        obtain ⟨g1, g2, g3, g4, g5, g6, g7⟩ := hgd
        have g1' : tx_en n tp s1.1 < s2.1 := g1
        have g3' : s2.2.1 + tx_en n tp s1.1 ≤ s2.1 + s1.2.1 := g3
        have hr0 : (0 : Int32) ≤ nI r2 := Int32.not_lt.mp (nI_pos (by omega))
        simp only [tz_74_0, tz_74_1, tz_74_2, tz_74_5, tz_74_6, tz_74_7, tz_74_9, tz_74_11, tz_74_14, tz_74_15, tz_74_18, tz_74_19, tz_74_22, tz_74_24, tz_74_27, tz_74_28, tz_74_31, tz_74_32, tz_74_33, tz_74_36, tz_74_38, tz_74_40, tz_74_43, tz_74_45, tz_74_48, tz_74_49, tz_74_50, tz_74_51, tz_74_53, tz_74_55, tz_74_57, tz_74_60, tz_74_61, tz_74_64, tz_74_67, tz_74_68, tk_127, tq_127_0, tq_i, tw_va_s, tw_va_n, tw_K_s, tw_K_n, and_true, true_and, and_false, false_and, true_or, or_true, not_true_eq_false, not_false_eq_true, ↓reduceIte, Nat.reduceEqDiff, tx_ri_r, hr0]
        refine tx_p_mk hu h2 (by omega) 3 tl3 (fun mi3 h3 => ?_)
        simp only [tz_74_0, tz_74_1, tz_74_2, tz_74_5, tz_74_6, tz_74_7, tz_74_9, tz_74_11, tz_74_14, tz_74_15, tz_74_18, tz_74_19, tz_74_22, tz_74_24, tz_74_27, tz_74_28, tz_74_31, tz_74_32, tz_74_33, tz_74_36, tz_74_38, tz_74_40, tz_74_43, tz_74_45, tz_74_48, tz_74_49, tz_74_50, tz_74_51, tz_74_53, tz_74_55, tz_74_57, tz_74_60, tz_74_61, tz_74_64, tz_74_67, tz_74_68, tw_va_s, tw_va_n, tw_K_s, tw_K_n, and_true, true_and, and_false, false_and, true_or, or_true, not_true_eq_false, not_false_eq_true, ↓reduceIte, Nat.reduceEqDiff, nI_1]
        exact ih (k + 1) s2.2.1 s0 _ mi3 Q _ (by omega) hp hM (tx_md_of hsn) h3 hQ
    · rw [tw_ne_t ht (by omega) (by omega)]
      rw [tx_lp_n ht] at hQ
      exact hQ mi hC
set_option maxRecDepth 100000 in
theorem tx_p_both {D e : Nat} {g : tx_S → tx_R} (hu : u = 1 ∨ u = 63) (hb : ∀ j, j < n → tp j < 256) (hg : tx_G n g) (H : tx_H sc (D + 2) 75 [some (.ref 127), some (.int (nI e))] mi0 n tp u t s' p0 g) : tx_H sc (D + 3) 74 [some (.ref 127), some (.int (nI e)), none, none, none] mi0 n tp u t s' p0 (tx_both n tp g) := by
  intro mi s Q hp hs hM hv hC hQ
  have hgd := hg s hs hv
  unfold tx_both at hQ
  simp only [tz_74_0, tz_74_1, tz_74_2, tz_74_5, tz_74_6, tz_74_7, tz_74_9, tz_74_11, tz_74_14, tz_74_15, tz_74_18, tz_74_19, tz_74_22, tz_74_24, tz_74_27, tz_74_28, tz_74_31, tz_74_32, tz_74_33, tz_74_36, tz_74_38, tz_74_40, tz_74_43, tz_74_45, tz_74_48, tz_74_49, tz_74_50, tz_74_51, tz_74_53, tz_74_55, tz_74_57, tz_74_60, tz_74_61, tz_74_64, tz_74_67, tz_74_68, tk_127, tq_127_0, tq_i, tw_va_s, tw_va_n, tw_K_s, tw_K_n, and_true, true_and, and_false, false_and, true_or, or_true, not_true_eq_false, not_false_eq_true, ↓reduceIte, Nat.reduceEqDiff]
  refine H mi s _ hp hs hM hv hC (fun mi2 h2 => ?_)
  cases hr : g s with
  | inl e =>
    rw [hr] at hQ h2
    simp only [tz_74_0, tz_74_1, tz_74_2, tz_74_5, tz_74_6, tz_74_7, tz_74_9, tz_74_11, tz_74_14, tz_74_15, tz_74_18, tz_74_19, tz_74_22, tz_74_24, tz_74_27, tz_74_28, tz_74_31, tz_74_32, tz_74_33, tz_74_36, tz_74_38, tz_74_40, tz_74_43, tz_74_45, tz_74_48, tz_74_49, tz_74_50, tz_74_51, tz_74_53, tz_74_55, tz_74_57, tz_74_60, tz_74_61, tz_74_64, tz_74_67, tz_74_68, tk_127, tq_127_0, tq_i, tw_va_s, tw_va_n, tw_K_s, tw_K_n, and_true, true_and, and_false, false_and, true_or, or_true, not_true_eq_false, not_false_eq_true, ↓reduceIte, Nat.reduceEqDiff, tx_ri_l]
    rw [tl0, tx_p_bothx _ _ (by omega)]
    exact hQ mi2 h2
  | inr q =>
    obtain ⟨r2, s2⟩ := q
    rw [hr] at hQ h2 hgd
    simp only [tz_74_0, tz_74_1, tz_74_2, tz_74_5, tz_74_6, tz_74_7, tz_74_9, tz_74_11, tz_74_14, tz_74_15, tz_74_18, tz_74_19, tz_74_22, tz_74_24, tz_74_27, tz_74_28, tz_74_31, tz_74_32, tz_74_33, tz_74_36, tz_74_38, tz_74_40, tz_74_43, tz_74_45, tz_74_48, tz_74_49, tz_74_50, tz_74_51, tz_74_53, tz_74_55, tz_74_57, tz_74_60, tz_74_61, tz_74_64, tz_74_67, tz_74_68, tk_127, tq_127_0, tq_i, tw_va_s, tw_va_n, tw_K_s, tw_K_n, and_true, true_and, and_false, false_and, true_or, or_true, not_true_eq_false, not_false_eq_true, ↓reduceIte, Nat.reduceEqDiff, tx_ri_r]
    rw [tl0]
    exact tx_p_bothl hu hb hg H 60 0 r2 s s2 mi2 Q _ rfl hp hM (tx_md_of hgd) h2 hQ
set_option maxRecDepth 100000 in
theorem tx_p_eithx {d' : Nat} (x1 x2 : Option Value) {k : Nat} (hk : k ≤ 60) : tw_E sc d' 73 8 [some (.ref 127), x1, some (.int (-9)), some (.int (nI k)), x2] [] tw_g0 mi (tw_r0 t s' i) Q = Q (some (.int (-9))) tw_g0 mi (tw_r0 t s' i) := by
  rw [tz_73_8]
  simp only [tz_73_0, tz_73_1, tz_73_2, tz_73_5, tz_73_6, tz_73_7, tz_73_9, tz_73_11, tz_73_14, tz_73_15, tz_73_18, tz_73_19, tz_73_22, tz_73_24, tz_73_27, tz_73_28, tz_73_31, tz_73_32, tz_73_33, tz_73_36, tz_73_38, tz_73_40, tz_73_43, tz_73_45, tz_73_48, tz_73_49, tz_73_50, tz_73_51, tz_73_53, tz_73_55, tz_73_57, tz_73_60, tz_73_61, tz_73_64, tz_73_67, tz_73_68, tw_va_s, tw_va_n, tw_K_s, tw_K_n, and_true, true_and, and_false, false_and, true_or, or_true, not_true_eq_false, not_false_eq_true, ↓reduceIte, Nat.reduceEqDiff, tx_neg, ite_self]
set_option maxRecDepth 100000 in
theorem tx_p_eithl {D e : Nat} {g : tx_S → tx_R} (hu : u = 1 ∨ u = 63) (hb : ∀ j, j < n → tp j < 256) (hg : tx_G n g) (H : tx_H sc (D + 2) 74 [some (.ref 127), some (.int (nI e)), none, none, none] mi0 n tp u t s' p0 g) : ∀ f k r s0 s1 (mi : tw_I) (Q : Option Value → tw_G → tw_I → tw_Q → Prop) (x2 : Option Value), 60 = k + f → p0 ≤ s0.1 → s0.2.1 ≤ s0.1 → tx_md n s0 r s1 → tx_RC mi0 mi n tp u s1 →
    (∀ mi', tx_RR mi0 mi' n tp u (tx_lp n tp 47 (tx_sn g 4 (-9) (-9)) f r s1) → Q (some (.int (tx_ri (tx_lp n tp 47 (tx_sn g 4 (-9) (-9)) f r s1)))) tw_g0 mi' (tw_r0 t s' u)) →
    tw_E sc (D + 3) 73 8 [some (.ref 127), some (.int (nI e)), some (.int (nI r)), some (.int (nI k)), x2] [] tw_g0 mi (tw_r0 t s' u) Q := by
  intro f
  induction f with
  | zero =>
    intro k r s0 s1 mi Q x2 hk hp hM hm hC hQ
    rw [tz_73_8]
    simp only [tz_73_0, tz_73_1, tz_73_2, tz_73_5, tz_73_6, tz_73_7, tz_73_9, tz_73_11, tz_73_14, tz_73_15, tz_73_18, tz_73_19, tz_73_22, tz_73_24, tz_73_27, tz_73_28, tz_73_31, tz_73_32, tz_73_33, tz_73_36, tz_73_38, tz_73_40, tz_73_43, tz_73_45, tz_73_48, tz_73_49, tz_73_50, tz_73_51, tz_73_53, tz_73_55, tz_73_57, tz_73_60, tz_73_61, tz_73_64, tz_73_67, tz_73_68, tw_va_s, tw_va_n, tw_K_s, tw_K_n, and_true, true_and, and_false, false_and, true_or, or_true, not_true_eq_false, not_false_eq_true, ↓reduceIte, Nat.reduceEqDiff, tl60]
    rw [tw_le_t (by omega) (by omega)]
    exact hQ mi hC
  | succ f ih =>
    intro k r s0 s1 mi Q x2 hk hp hM hm hC hQ
    obtain ⟨m1, m2, m3, m4, m5, m6, m7⟩ := hm
    have hn := hC.2.1.1
    have hl := tx_to_lt hb s1.1
    have l2 := tx_en_le (tp := tp) m2
    have l3 := tx_pl_le (tp := tp) m2
    rw [tz_73_8]
    simp only [tz_73_0, tz_73_1, tz_73_2, tz_73_5, tz_73_6, tz_73_7, tz_73_9, tz_73_11, tz_73_14, tz_73_15, tz_73_18, tz_73_19, tz_73_22, tz_73_24, tz_73_27, tz_73_28, tz_73_31, tz_73_32, tz_73_33, tz_73_36, tz_73_38, tz_73_40, tz_73_43, tz_73_45, tz_73_48, tz_73_49, tz_73_50, tz_73_51, tz_73_53, tz_73_55, tz_73_57, tz_73_60, tz_73_61, tz_73_64, tz_73_67, tz_73_68, tk_127, tq_127_0, tq_i, tw_va_s, tw_va_n, tw_K_s, tw_K_n, and_true, true_and, and_false, false_and, true_or, or_true, not_true_eq_false, not_false_eq_true, ↓reduceIte, Nat.reduceEqDiff, tl60, tl47, hC.2.2.1.2.1]
    rw [tw_le_f (by omega) (by omega), if_neg (nI_pos (by omega))]
    by_cases ht : tx_to n tp s1.1 = 47
    · rw [tw_ne_f ht]
      have l1 := tx_en_lt (tp := tp) m2 (by omega)
      have hsn := tx_sn_gd hg (kd := 4) (lo := -9) (hi := -9) (Or.inr (Or.inl rfl)) ⟨m1, m2, m3, m4, m5, m6, m7⟩ (s2 := tx_ad n tp s1) l1 l2.2.1 rfl rfl
      have hgd := hg (tx_ad n tp s1) l2.2.1 m7
      refine tx_p_go hu hb hC m2 (fun mi' h' => ?_)
      simp only [tz_73_0, tz_73_1, tz_73_2, tz_73_5, tz_73_6, tz_73_7, tz_73_9, tz_73_11, tz_73_14, tz_73_15, tz_73_18, tz_73_19, tz_73_22, tz_73_24, tz_73_27, tz_73_28, tz_73_31, tz_73_32, tz_73_33, tz_73_36, tz_73_38, tz_73_40, tz_73_43, tz_73_45, tz_73_48, tz_73_49, tz_73_50, tz_73_51, tz_73_53, tz_73_55, tz_73_57, tz_73_60, tz_73_61, tz_73_64, tz_73_67, tz_73_68, tk_127, tq_127_0, tq_i, tw_va_s, tw_va_n, tw_K_s, tw_K_n, and_true, true_and, and_false, false_and, true_or, or_true, not_true_eq_false, not_false_eq_true, ↓reduceIte, Nat.reduceEqDiff]
      refine H mi' (tx_ad n tp s1) _ (by show p0 ≤ tx_en n tp s1.1; omega) l2.2.1 (by show s1.2.1 ≤ tx_en n tp s1.1; omega) m7 h' (fun mi2 h2 => ?_)
      cases hr : g (tx_ad n tp s1) with
      | inl e =>
        rw [tx_lp_l ht (tx_sn_l hr)] at hQ
        rw [hr] at h2
        simp only [tz_73_0, tz_73_1, tz_73_2, tz_73_5, tz_73_6, tz_73_7, tz_73_9, tz_73_11, tz_73_14, tz_73_15, tz_73_18, tz_73_19, tz_73_22, tz_73_24, tz_73_27, tz_73_28, tz_73_31, tz_73_32, tz_73_33, tz_73_36, tz_73_38, tz_73_40, tz_73_43, tz_73_45, tz_73_48, tz_73_49, tz_73_50, tz_73_51, tz_73_53, tz_73_55, tz_73_57, tz_73_60, tz_73_61, tz_73_64, tz_73_67, tz_73_68, tk_127, tq_127_0, tq_i, tw_va_s, tw_va_n, tw_K_s, tw_K_n, and_true, true_and, and_false, false_and, true_or, or_true, not_true_eq_false, not_false_eq_true, ↓reduceIte, Nat.reduceEqDiff, tx_ri_l, tx_nng, nI_1]
        rw [tx_p_eithx _ _ (by omega)]
        exact hQ mi2 h2
      | inr q =>
        obtain ⟨r2, s2⟩ := q
        rw [tx_lp_r ht (tx_sn_r hr)] at hQ
        rw [hr] at h2 hgd
        rw [tx_sn_r hr] at hsn
        obtain ⟨g1, g2, g3, g4, g5, g6, g7⟩ := hgd
        have g1' : tx_en n tp s1.1 < s2.1 := g1
        have g3' : s2.2.1 + tx_en n tp s1.1 ≤ s2.1 + s1.2.1 := g3
        have hr0 : (0 : Int32) ≤ nI r2 := Int32.not_lt.mp (nI_pos (by omega))
        simp only [tz_73_0, tz_73_1, tz_73_2, tz_73_5, tz_73_6, tz_73_7, tz_73_9, tz_73_11, tz_73_14, tz_73_15, tz_73_18, tz_73_19, tz_73_22, tz_73_24, tz_73_27, tz_73_28, tz_73_31, tz_73_32, tz_73_33, tz_73_36, tz_73_38, tz_73_40, tz_73_43, tz_73_45, tz_73_48, tz_73_49, tz_73_50, tz_73_51, tz_73_53, tz_73_55, tz_73_57, tz_73_60, tz_73_61, tz_73_64, tz_73_67, tz_73_68, tk_127, tq_127_0, tq_i, tw_va_s, tw_va_n, tw_K_s, tw_K_n, and_true, true_and, and_false, false_and, true_or, or_true, not_true_eq_false, not_false_eq_true, ↓reduceIte, Nat.reduceEqDiff, tx_ri_r, hr0]
        refine tx_p_mk hu h2 (by omega) 4 tl4 (fun mi3 h3 => ?_)
        simp only [tz_73_0, tz_73_1, tz_73_2, tz_73_5, tz_73_6, tz_73_7, tz_73_9, tz_73_11, tz_73_14, tz_73_15, tz_73_18, tz_73_19, tz_73_22, tz_73_24, tz_73_27, tz_73_28, tz_73_31, tz_73_32, tz_73_33, tz_73_36, tz_73_38, tz_73_40, tz_73_43, tz_73_45, tz_73_48, tz_73_49, tz_73_50, tz_73_51, tz_73_53, tz_73_55, tz_73_57, tz_73_60, tz_73_61, tz_73_64, tz_73_67, tz_73_68, tw_va_s, tw_va_n, tw_K_s, tw_K_n, and_true, true_and, and_false, false_and, true_or, or_true, not_true_eq_false, not_false_eq_true, ↓reduceIte, Nat.reduceEqDiff, nI_1]
        exact ih (k + 1) s2.2.1 s0 _ mi3 Q _ (by omega) hp hM (tx_md_of hsn) h3 hQ
    · rw [tw_ne_t ht (by omega) (by omega)]
      rw [tx_lp_n ht] at hQ
      exact hQ mi hC
set_option maxRecDepth 100000 in
theorem tx_p_eith {D e : Nat} {g : tx_S → tx_R} (hu : u = 1 ∨ u = 63) (hb : ∀ j, j < n → tp j < 256) (hg0 : tx_G n g) (H : tx_H sc (D + 2) 74 [some (.ref 127), some (.int (nI e)), none, none, none] mi0 n tp u t s' p0 (tx_both n tp g)) : tx_H sc (D + 3) 73 [some (.ref 127), some (.int (nI e)), none, none, none] mi0 n tp u t s' p0 (tx_eith n tp g) := by
  intro mi s Q hp hs hM hv hC hQ
  have hg := tx_both_gd (tp := tp) hg0
  have hgd := hg s hs hv
  unfold tx_eith at hQ
  simp only [tz_73_0, tz_73_1, tz_73_2, tz_73_5, tz_73_6, tz_73_7, tz_73_9, tz_73_11, tz_73_14, tz_73_15, tz_73_18, tz_73_19, tz_73_22, tz_73_24, tz_73_27, tz_73_28, tz_73_31, tz_73_32, tz_73_33, tz_73_36, tz_73_38, tz_73_40, tz_73_43, tz_73_45, tz_73_48, tz_73_49, tz_73_50, tz_73_51, tz_73_53, tz_73_55, tz_73_57, tz_73_60, tz_73_61, tz_73_64, tz_73_67, tz_73_68, tk_127, tq_127_0, tq_i, tw_va_s, tw_va_n, tw_K_s, tw_K_n, and_true, true_and, and_false, false_and, true_or, or_true, not_true_eq_false, not_false_eq_true, ↓reduceIte, Nat.reduceEqDiff]
  refine H mi s _ hp hs hM hv hC (fun mi2 h2 => ?_)
  cases hr : tx_both n tp g s with
  | inl e =>
    rw [hr] at hQ h2
    simp only [tz_73_0, tz_73_1, tz_73_2, tz_73_5, tz_73_6, tz_73_7, tz_73_9, tz_73_11, tz_73_14, tz_73_15, tz_73_18, tz_73_19, tz_73_22, tz_73_24, tz_73_27, tz_73_28, tz_73_31, tz_73_32, tz_73_33, tz_73_36, tz_73_38, tz_73_40, tz_73_43, tz_73_45, tz_73_48, tz_73_49, tz_73_50, tz_73_51, tz_73_53, tz_73_55, tz_73_57, tz_73_60, tz_73_61, tz_73_64, tz_73_67, tz_73_68, tk_127, tq_127_0, tq_i, tw_va_s, tw_va_n, tw_K_s, tw_K_n, and_true, true_and, and_false, false_and, true_or, or_true, not_true_eq_false, not_false_eq_true, ↓reduceIte, Nat.reduceEqDiff, tx_ri_l]
    rw [tl0, tx_p_eithx _ _ (by omega)]
    exact hQ mi2 h2
  | inr q =>
    obtain ⟨r2, s2⟩ := q
    rw [hr] at hQ h2 hgd
    simp only [tz_73_0, tz_73_1, tz_73_2, tz_73_5, tz_73_6, tz_73_7, tz_73_9, tz_73_11, tz_73_14, tz_73_15, tz_73_18, tz_73_19, tz_73_22, tz_73_24, tz_73_27, tz_73_28, tz_73_31, tz_73_32, tz_73_33, tz_73_36, tz_73_38, tz_73_40, tz_73_43, tz_73_45, tz_73_48, tz_73_49, tz_73_50, tz_73_51, tz_73_53, tz_73_55, tz_73_57, tz_73_60, tz_73_61, tz_73_64, tz_73_67, tz_73_68, tk_127, tq_127_0, tq_i, tw_va_s, tw_va_n, tw_K_s, tw_K_n, and_true, true_and, and_false, false_and, true_or, or_true, not_true_eq_false, not_false_eq_true, ↓reduceIte, Nat.reduceEqDiff, tx_ri_r]
    rw [tl0]
    exact tx_p_eithl hu hb hg H 60 0 r2 s s2 mi2 Q _ rfl hp hM (tx_md_of hgd) h2 hQ
end tw_crows
