/-! the class reads: one, by induction -/
section tw_cone2
variable {sc : Nat × (Nat → Int32)} {d t s' i n u p0 : Nat} {mi mi0 : tw_I} {Q : Option Value → tw_G → tw_I → tw_Q → Prop} {tp : Nat → Nat} {s : tx_S}
/-- what stands behind a number -/
def tx_cnt (n : Nat) (tp : Nat → Nat) (g : tx_S → tx_R) (s : tx_S) : tx_R := if tx_to n tp (tx_en n tp s.1) = 42 then (match g (tx_ad n tp (tx_ad n tp s)) with
  | .inl e => .inl e
  | .inr (r, s2) => tx_mk 5 (nI r) (-9) (nI (tx_nu n tp s.1)) (-9) s2) else .inl (tx_pl n tp (tx_en n tp s.1))
def tx_non (n : Nat) (tp : Nat → Nat) (g : tx_S → tx_R) (s : tx_S) : tx_R := match g (tx_ad n tp s) with
  | .inl e => .inl e
  | .inr (r, s2) => tx_mk 2 (nI r) (-9) (-9) (-9) s2
def tx_wth (n : Nat) (tp : Nat → Nat) (g : tx_S → tx_R) (s : tx_S) : tx_R := match g (tx_ad n tp s) with
  | .inl e => .inl e
  | .inr (r, s2) => if tx_to n tp s2.1 = 41 then .inr (r, tx_ad n tp s2) else .inl (tx_pl n tp s2.1)
set_option maxRecDepth 100000 in
theorem tx_one_eq (f d : Nat) (s : tx_S) : tx_one n tp (f + 1) d s = 
    if 97 ≤ tx_to n tp s.1 ∧ tx_to n tp s.1 ≤ 112 then tx_wire n tp s
    else if 10 ≤ d then .inl (tx_pl n tp s.1)
    else if tx_to n tp s.1 = 256 then tx_cnt n tp (tx_one n tp f (d + 1)) s
    else if tx_to n tp s.1 = 33 then tx_non n tp (tx_one n tp f (d + 1)) s
    else if tx_to n tp s.1 = 40 then tx_wth n tp (tx_row n tp (tx_one n tp f (d + 1))) s
    else .inl (tx_pl n tp s.1) := rfl
set_option maxRecDepth 100000 in
theorem tx_p_cnt {D e : Nat} {g : tx_S → tx_R} (hu : u = 1 ∨ u = 63) (hb : ∀ j, j < n → tp j < 256) (hg : tx_G n g) (H : tx_H sc (D + 3) 75 [some (.ref 127), some (.int (nI e))] mi0 n tp u t s' p0 g) (hp : p0 ≤ s.1 + 1) (hs : s.1 ≤ n) (hM : s.2.1 ≤ s.1) (hv : tx_va s) (hC : tx_RC mi0 mi n tp u s) (ht : tx_to n tp s.1 = 256)
    (hQ : ∀ mi', tx_RR mi0 mi' n tp u (tx_cnt n tp g s) → Q (some (.int (tx_ri (tx_cnt n tp g s)))) tw_g0 mi' (tw_r0 t s' u)) : tw_E sc (D + 4) 77 0 [some (.ref 127), some (.int (nI e)), none, none] [] tw_g0 mi (tw_r0 t s' u) Q := by
  have hn := hC.2.1.1
  have l1 := tx_en_lt (tp := tp) hs (by omega)
  have l2 := tx_en_le (tp := tp) hs
  have hnum := hC.2.2.1.2.2.2 ht
  unfold tx_cnt at hQ
  simp only [tz_77_0, tz_77_1, tz_77_4, tz_77_5, tz_77_6, tz_77_9, tz_77_10, tz_77_12, tz_77_15, tz_77_18, tz_77_19, tz_77_22, tz_77_23, tz_77_24, tz_77_25, tz_77_28, tz_77_29, tz_77_30, tz_77_33, tz_77_34, tz_77_37, tz_77_38, tz_77_39, tz_77_40, tz_77_42, tz_77_43, tz_77_45, tz_77_48, tk_127, tq_127_0, tq_i, tw_va_s, tw_va_n, tw_K_s, tw_K_n, and_true, true_and, and_false, false_and, true_or, or_true, not_true_eq_false, not_false_eq_true, ↓reduceIte, Nat.reduceEqDiff, hnum]
  refine tx_p_go hu hb hC hs (fun mi2 w2 => ?_)
  simp only [tz_77_0, tz_77_1, tz_77_4, tz_77_5, tz_77_6, tz_77_9, tz_77_10, tz_77_12, tz_77_15, tz_77_18, tz_77_19, tz_77_22, tz_77_23, tz_77_24, tz_77_25, tz_77_28, tz_77_29, tz_77_30, tz_77_33, tz_77_34, tz_77_37, tz_77_38, tz_77_39, tz_77_40, tz_77_42, tz_77_43, tz_77_45, tz_77_48, tk_127, tq_127_0, tq_i, tw_va_s, tw_va_n, tw_K_s, tw_K_n, and_true, true_and, and_false, false_and, true_or, or_true, not_true_eq_false, not_false_eq_true, ↓reduceIte, Nat.reduceEqDiff]
  refine tx_p_pass hu hb w2 l2.2.1 (c := 42) (by omega) tl42 (fun h42 mi3 w3 => ?_) (fun h42 => ?_)
  · have h42' : tx_to n tp (tx_en n tp s.1) = 42 := h42
    rw [if_pos h42'] at hQ
    have l3 := tx_en_le (tp := tp) l2.2.1
    have l5 := tx_pl_le (tp := tp) l2.2.1
    have l4 := tx_en_lt (tp := tp) l2.2.1 (by rw [h42']; decide)
    have hgd := hg (tx_ad n tp (tx_ad n tp s)) l3.2.1 hv
    simp only [tz_77_0, tz_77_1, tz_77_4, tz_77_5, tz_77_6, tz_77_9, tz_77_10, tz_77_12, tz_77_15, tz_77_18, tz_77_19, tz_77_22, tz_77_23, tz_77_24, tz_77_25, tz_77_28, tz_77_29, tz_77_30, tz_77_33, tz_77_34, tz_77_37, tz_77_38, tz_77_39, tz_77_40, tz_77_42, tz_77_43, tz_77_45, tz_77_48, tk_127, tq_127_0, tq_i, tw_va_s, tw_va_n, tw_K_s, tw_K_n, and_true, true_and, and_false, false_and, true_or, or_true, not_true_eq_false, not_false_eq_true, ↓reduceIte, Nat.reduceEqDiff, show ¬ (1 : Int32) = 0 by decide]
    refine H mi3 (tx_ad n tp (tx_ad n tp s)) _ (by show p0 ≤ tx_en n tp (tx_en n tp s.1); omega) l3.2.1 (by show s.2.1 ≤ tx_en n tp (tx_en n tp s.1); omega) hv w3 (fun mi4 w4 => ?_)
    cases hr : g (tx_ad n tp (tx_ad n tp s)) with
    | inl e =>
      rw [hr] at w4 hQ
      simp only [tz_77_0, tz_77_1, tz_77_4, tz_77_5, tz_77_6, tz_77_9, tz_77_10, tz_77_12, tz_77_15, tz_77_18, tz_77_19, tz_77_22, tz_77_23, tz_77_24, tz_77_25, tz_77_28, tz_77_29, tz_77_30, tz_77_33, tz_77_34, tz_77_37, tz_77_38, tz_77_39, tz_77_40, tz_77_42, tz_77_43, tz_77_45, tz_77_48, tk_127, tq_127_0, tq_i, tw_va_s, tw_va_n, tw_K_s, tw_K_n, and_true, true_and, and_false, false_and, true_or, or_true, not_true_eq_false, not_false_eq_true, ↓reduceIte, Nat.reduceEqDiff, tx_ri_l, tx_nng]
      exact hQ mi4 w4
    | inr q =>
      rw [hr] at w4 hQ hgd
      obtain ⟨r, s2⟩ := q
      obtain ⟨g1, g2, g3, g4, g5, g6, g7⟩ := hgd
      have g1' : tx_en n tp (tx_en n tp s.1) < s2.1 := g1
      have g3' : s2.2.1 + tx_en n tp (tx_en n tp s.1) ≤ s2.1 + s.2.1 := g3
      have hr0 : (0 : Int32) ≤ nI r := Int32.not_lt.mp (nI_pos (by omega))
      simp only [tz_77_0, tz_77_1, tz_77_4, tz_77_5, tz_77_6, tz_77_9, tz_77_10, tz_77_12, tz_77_15, tz_77_18, tz_77_19, tz_77_22, tz_77_23, tz_77_24, tz_77_25, tz_77_28, tz_77_29, tz_77_30, tz_77_33, tz_77_34, tz_77_37, tz_77_38, tz_77_39, tz_77_40, tz_77_42, tz_77_43, tz_77_45, tz_77_48, tk_127, tq_127_0, tq_i, tw_va_s, tw_va_n, tw_K_s, tw_K_n, and_true, true_and, and_false, false_and, true_or, or_true, not_true_eq_false, not_false_eq_true, ↓reduceIte, Nat.reduceEqDiff, tx_ri_r, hr0]
      refine tx_p_mk hu w4 (by omega) 5 tl5 (fun mi5 w5 => ?_)
      simp only [tz_77_0, tz_77_1, tz_77_4, tz_77_5, tz_77_6, tz_77_9, tz_77_10, tz_77_12, tz_77_15, tz_77_18, tz_77_19, tz_77_22, tz_77_23, tz_77_24, tz_77_25, tz_77_28, tz_77_29, tz_77_30, tz_77_33, tz_77_34, tz_77_37, tz_77_38, tz_77_39, tz_77_40, tz_77_42, tz_77_43, tz_77_45, tz_77_48, tw_va_s, tw_va_n, tw_K_s, tw_K_n, and_true, true_and, and_false, false_and, true_or, or_true, not_true_eq_false, not_false_eq_true, ↓reduceIte, Nat.reduceEqDiff]
      exact hQ mi5 w5
  · rw [if_neg (show ¬ tx_to n tp (tx_en n tp s.1) = 42 from h42)] at hQ
    simp only [tz_77_0, tz_77_1, tz_77_4, tz_77_5, tz_77_6, tz_77_9, tz_77_10, tz_77_12, tz_77_15, tz_77_18, tz_77_19, tz_77_22, tz_77_23, tz_77_24, tz_77_25, tz_77_28, tz_77_29, tz_77_30, tz_77_33, tz_77_34, tz_77_37, tz_77_38, tz_77_39, tz_77_40, tz_77_42, tz_77_43, tz_77_45, tz_77_48, tk_127, tq_127_0, tq_i, tw_va_s, tw_va_n, tw_K_s, tw_K_n, and_true, true_and, and_false, false_and, true_or, or_true, not_true_eq_false, not_false_eq_true, ↓reduceIte, Nat.reduceEqDiff]
    refine tx_p_refuse hu w2 (fun mi6 h6 => ?_)
    simp only [tz_77_0, tz_77_1, tz_77_4, tz_77_5, tz_77_6, tz_77_9, tz_77_10, tz_77_12, tz_77_15, tz_77_18, tz_77_19, tz_77_22, tz_77_23, tz_77_24, tz_77_25, tz_77_28, tz_77_29, tz_77_30, tz_77_33, tz_77_34, tz_77_37, tz_77_38, tz_77_39, tz_77_40, tz_77_42, tz_77_43, tz_77_45, tz_77_48, tw_va_s, tw_va_n, tw_K_s, tw_K_n, and_true, true_and, and_false, false_and, true_or, or_true, not_true_eq_false, not_false_eq_true, ↓reduceIte, Nat.reduceEqDiff]
    exact hQ mi6 h6
set_option maxRecDepth 100000 in
theorem tx_p_wth {D e : Nat} {g : tx_S → tx_R} (hu : u = 1 ∨ u = 63) (hb : ∀ j, j < n → tp j < 256) (hg : tx_G n g) (H : tx_H sc (D + 3) 70 [some (.ref 127), some (.int (nI e)), none, none] mi0 n tp u t s' p0 g) (hp : p0 ≤ s.1 + 1) (hs : s.1 ≤ n) (hM : s.2.1 ≤ s.1) (hv : tx_va s) (hC : tx_RC mi0 mi n tp u s) (ht : ¬ tx_to n tp s.1 = 257)
    (hQ : ∀ mi', tx_RR mi0 mi' n tp u (tx_wth n tp g s) → Q (some (.int (tx_ri (tx_wth n tp g s)))) tw_g0 mi' (tw_r0 t s' u)) : tw_E sc (D + 4) 79 0 [some (.ref 127), some (.int (nI e)), none] [] tw_g0 mi (tw_r0 t s' u) Q := by
  have hn := hC.2.1.1
  have l1 := tx_en_lt (tp := tp) hs ht
  have l2 := tx_en_le (tp := tp) hs
  have hgd := hg (tx_ad n tp s) l2.2.1 hv
  unfold tx_wth at hQ
  simp only [tz_79_0, tz_79_1, tz_79_4, tz_79_5, tz_79_6, tz_79_9, tz_79_10, tz_79_11, tz_79_14, tz_79_15, tz_79_16, tz_79_17, tz_79_19, tz_79_22, tz_79_25, tz_79_26, tz_79_29, tz_79_30, tz_79_33, tk_127, tq_127_0, tq_i, tw_va_s, tw_va_n, tw_K_s, tw_K_n, and_true, true_and, and_false, false_and, true_or, or_true, not_true_eq_false, not_false_eq_true, ↓reduceIte, Nat.reduceEqDiff]
  refine tx_p_go hu hb hC hs (fun mi' h' => ?_)
  simp only [tz_79_0, tz_79_1, tz_79_4, tz_79_5, tz_79_6, tz_79_9, tz_79_10, tz_79_11, tz_79_14, tz_79_15, tz_79_16, tz_79_17, tz_79_19, tz_79_22, tz_79_25, tz_79_26, tz_79_29, tz_79_30, tz_79_33, tk_127, tq_127_0, tq_i, tw_va_s, tw_va_n, tw_K_s, tw_K_n, and_true, true_and, and_false, false_and, true_or, or_true, not_true_eq_false, not_false_eq_true, ↓reduceIte, Nat.reduceEqDiff]
  refine H mi' (tx_ad n tp s) _ (by show p0 ≤ tx_en n tp s.1; omega) l2.2.1 (by show s.2.1 ≤ tx_en n tp s.1; omega) hv h' (fun mi2 h2 => ?_)
  cases hr : g (tx_ad n tp s) with
  | inl e =>
    rw [hr] at h2 hQ
    simp only [tz_79_0, tz_79_1, tz_79_4, tz_79_5, tz_79_6, tz_79_9, tz_79_10, tz_79_11, tz_79_14, tz_79_15, tz_79_16, tz_79_17, tz_79_19, tz_79_22, tz_79_25, tz_79_26, tz_79_29, tz_79_30, tz_79_33, tk_127, tq_127_0, tq_i, tw_va_s, tw_va_n, tw_K_s, tw_K_n, and_true, true_and, and_false, false_and, true_or, or_true, not_true_eq_false, not_false_eq_true, ↓reduceIte, Nat.reduceEqDiff, tx_ri_l, tx_nng]
    exact hQ mi2 h2
  | inr q =>
    rw [hr] at h2 hQ hgd
    obtain ⟨r, s2⟩ := q
    obtain ⟨g1, g2, g3, g4, g5, g6, g7⟩ := hgd
    have g1' : tx_en n tp s.1 < s2.1 := g1
    have g3' : s2.2.1 + tx_en n tp s.1 ≤ s2.1 + s.2.1 := g3
    have hr0 : (0 : Int32) ≤ nI r := Int32.not_lt.mp (nI_pos (by omega))
    simp only [tz_79_0, tz_79_1, tz_79_4, tz_79_5, tz_79_6, tz_79_9, tz_79_10, tz_79_11, tz_79_14, tz_79_15, tz_79_16, tz_79_17, tz_79_19, tz_79_22, tz_79_25, tz_79_26, tz_79_29, tz_79_30, tz_79_33, tk_127, tq_127_0, tq_i, tw_va_s, tw_va_n, tw_K_s, tw_K_n, and_true, true_and, and_false, false_and, true_or, or_true, not_true_eq_false, not_false_eq_true, ↓reduceIte, Nat.reduceEqDiff, tx_ri_r, hr0]
    refine tx_p_pass hu hb h2 g2 (c := 41) (by omega) tl41 (fun h41 mi3 w3 => ?_) (fun h41 => ?_)
    · simp only [h41, ↓reduceIte] at hQ
      simp only [tz_79_0, tz_79_1, tz_79_4, tz_79_5, tz_79_6, tz_79_9, tz_79_10, tz_79_11, tz_79_14, tz_79_15, tz_79_16, tz_79_17, tz_79_19, tz_79_22, tz_79_25, tz_79_26, tz_79_29, tz_79_30, tz_79_33, tk_127, tq_127_0, tq_i, tw_va_s, tw_va_n, tw_K_s, tw_K_n, and_true, true_and, and_false, false_and, true_or, or_true, not_true_eq_false, not_false_eq_true, ↓reduceIte, Nat.reduceEqDiff, show ¬ (1 : Int32) = 0 by decide]
      exact hQ mi3 w3
    · simp only [h41, ↓reduceIte] at hQ
      simp only [tz_79_0, tz_79_1, tz_79_4, tz_79_5, tz_79_6, tz_79_9, tz_79_10, tz_79_11, tz_79_14, tz_79_15, tz_79_16, tz_79_17, tz_79_19, tz_79_22, tz_79_25, tz_79_26, tz_79_29, tz_79_30, tz_79_33, tk_127, tq_127_0, tq_i, tw_va_s, tw_va_n, tw_K_s, tw_K_n, and_true, true_and, and_false, false_and, true_or, or_true, not_true_eq_false, not_false_eq_true, ↓reduceIte, Nat.reduceEqDiff]
      refine tx_p_refuse hu h2 (fun mi6 h6 => ?_)
      simp only [tz_79_0, tz_79_1, tz_79_4, tz_79_5, tz_79_6, tz_79_9, tz_79_10, tz_79_11, tz_79_14, tz_79_15, tz_79_16, tz_79_17, tz_79_19, tz_79_22, tz_79_25, tz_79_26, tz_79_29, tz_79_30, tz_79_33, tw_va_s, tw_va_n, tw_K_s, tw_K_n, and_true, true_and, and_false, false_and, true_or, or_true, not_true_eq_false, not_false_eq_true, ↓reduceIte, Nat.reduceEqDiff]
      exact hQ mi6 h6
set_option maxRecDepth 100000 in
theorem tx_p_one (hu : u = 1 ∨ u = 63) (hb : ∀ j, j < n → tp j < 256) : ∀ f D d, d ≤ 10 → tx_H sc (6 * f + 2 + D) 75 [some (.ref 127), some (.int (nI d))] mi0 n tp u t s' (n + 1 - f) (tx_one n tp f d) := by
  intro f
  induction f with
  | zero =>
    intro D d hd mi s Q hp hs hM hv hC hQ
    omega
  | succ f ih =>
    intro D d hd mi s Q hp hs hM hv hC hQ
    have hl := tx_to_lt hb s.1
    rw [tx_one_eq] at hQ
    have eD : 6 * (f + 1) + 2 + D = (6 * f + D) + 8 := by omega
    rw [eD]
    simp only [tz_75_0, tz_75_1, tz_75_4, tz_75_6, tz_75_9, tz_75_10, tz_75_13, tz_75_15, tz_75_18, tz_75_19, tz_75_22, tz_75_23, tz_75_24, tz_75_26, tz_75_29, tz_75_30, tz_75_33, tz_75_34, tz_75_35, tz_75_38, tz_75_72, tz_75_73, tz_75_74, tz_75_75, tz_75_76, tz_75_79, tz_75_80, tz_75_81, tz_75_82, tz_75_83, tz_75_84, tz_75_87, tz_75_88, tz_75_89, tz_75_90, tz_75_91, tz_75_92, tz_75_95, tz_75_96, tz_75_97, tz_75_100, tk_127, tq_127_0, tq_i, tw_va_s, tw_va_n, tw_K_s, tw_K_n, and_true, true_and, and_false, false_and, true_or, or_true, not_true_eq_false, not_false_eq_true, ↓reduceIte, Nat.reduceEqDiff, hC.2.2.1.2.1, nI_1, tl97, tl112, tl10, tl256, tl33, tl40]
    -- from the depth's check on
    have rest : ¬ (97 ≤ tx_to n tp s.1 ∧ tx_to n tp s.1 ≤ 112) → tw_E sc (6 * f + D + 8) 75 23 [some (.ref 127), some (.int (nI d))] [] tw_g0 mi (tw_r0 t s' u) Q := by
      intro hw
      rw [if_neg hw] at hQ
      simp only [tz_75_0, tz_75_1, tz_75_4, tz_75_6, tz_75_9, tz_75_10, tz_75_13, tz_75_15, tz_75_18, tz_75_19, tz_75_22, tz_75_23, tz_75_24, tz_75_26, tz_75_29, tz_75_30, tz_75_33, tz_75_34, tz_75_35, tz_75_38, tz_75_72, tz_75_73, tz_75_74, tz_75_75, tz_75_76, tz_75_79, tz_75_80, tz_75_81, tz_75_82, tz_75_83, tz_75_84, tz_75_87, tz_75_88, tz_75_89, tz_75_90, tz_75_91, tz_75_92, tz_75_95, tz_75_96, tz_75_97, tz_75_100, tk_127, tq_127_0, tq_i, tw_va_s, tw_va_n, tw_K_s, tw_K_n, and_true, true_and, and_false, false_and, true_or, or_true, not_true_eq_false, not_false_eq_true, ↓reduceIte, Nat.reduceEqDiff, hC.2.2.1.2.1, nI_1, tl10, tl256, tl33, tl40]
      by_cases h10 : 10 ≤ d
      · rw [if_pos h10] at hQ
        rw [tw_lt_f h10 (by omega)]
        refine tx_p_refuse hu hC (fun mi6 h6 => ?_)
        simp only [tz_75_0, tz_75_1, tz_75_4, tz_75_6, tz_75_9, tz_75_10, tz_75_13, tz_75_15, tz_75_18, tz_75_19, tz_75_22, tz_75_23, tz_75_24, tz_75_26, tz_75_29, tz_75_30, tz_75_33, tz_75_34, tz_75_35, tz_75_38, tz_75_72, tz_75_73, tz_75_74, tz_75_75, tz_75_76, tz_75_79, tz_75_80, tz_75_81, tz_75_82, tz_75_83, tz_75_84, tz_75_87, tz_75_88, tz_75_89, tz_75_90, tz_75_91, tz_75_92, tz_75_95, tz_75_96, tz_75_97, tz_75_100, tw_va_s, tw_va_n, tw_K_s, tw_K_n, and_true, true_and, and_false, false_and, true_or, or_true, not_true_eq_false, not_false_eq_true, ↓reduceIte, Nat.reduceEqDiff]
        exact hQ mi6 h6
      · rw [if_neg h10] at hQ
        rw [tw_lt_t (by omega) (by omega)]
        by_cases h1 : tx_to n tp s.1 = 256
        · rw [if_pos h1] at hQ
          rw [tw_eq_f (by omega) (by omega) (by omega), tw_eq_f (by omega) (by omega) (by omega), tw_eq_t h1]
          have H := ih (D + 4) (d + 1) (by omega)
          rw [show 6 * f + 2 + (D + 4) = 6 * f + D + 3 + 3 by omega] at H
          refine tx_p_cnt (D := 6 * f + D + 3) hu hb (tx_one_gd hb f (d + 1)) H (by omega) hs hM hv hC h1 (fun mi6 h6 => ?_)
          simp only [tz_75_0, tz_75_1, tz_75_4, tz_75_6, tz_75_9, tz_75_10, tz_75_13, tz_75_15, tz_75_18, tz_75_19, tz_75_22, tz_75_23, tz_75_24, tz_75_26, tz_75_29, tz_75_30, tz_75_33, tz_75_34, tz_75_35, tz_75_38, tz_75_72, tz_75_73, tz_75_74, tz_75_75, tz_75_76, tz_75_79, tz_75_80, tz_75_81, tz_75_82, tz_75_83, tz_75_84, tz_75_87, tz_75_88, tz_75_89, tz_75_90, tz_75_91, tz_75_92, tz_75_95, tz_75_96, tz_75_97, tz_75_100, tw_va_s, tw_va_n, tw_K_s, tw_K_n, and_true, true_and, and_false, false_and, true_or, or_true, not_true_eq_false, not_false_eq_true, ↓reduceIte, Nat.reduceEqDiff]
          exact hQ mi6 h6
        · rw [if_neg h1] at hQ
          by_cases h2 : tx_to n tp s.1 = 33
          · rw [if_pos h2] at hQ
            rw [tw_eq_t h2]
            have H := ih (D + 4) (d + 1) (by omega)
            rw [show 6 * f + 2 + (D + 4) = 6 * f + D + 4 + 2 by omega] at H
            refine tx_p_not (D := 6 * f + D + 4) hu hb (tx_one_gd hb f (d + 1)) H (by omega) hs hM hv hC (by omega) ?_
            intro mi6 h6
            simp only [tz_75_0, tz_75_1, tz_75_4, tz_75_6, tz_75_9, tz_75_10, tz_75_13, tz_75_15, tz_75_18, tz_75_19, tz_75_22, tz_75_23, tz_75_24, tz_75_26, tz_75_29, tz_75_30, tz_75_33, tz_75_34, tz_75_35, tz_75_38, tz_75_72, tz_75_73, tz_75_74, tz_75_75, tz_75_76, tz_75_79, tz_75_80, tz_75_81, tz_75_82, tz_75_83, tz_75_84, tz_75_87, tz_75_88, tz_75_89, tz_75_90, tz_75_91, tz_75_92, tz_75_95, tz_75_96, tz_75_97, tz_75_100, tw_va_s, tw_va_n, tw_K_s, tw_K_n, and_true, true_and, and_false, false_and, true_or, or_true, not_true_eq_false, not_false_eq_true, ↓reduceIte, Nat.reduceEqDiff]
            exact hQ mi6 h6
          · rw [if_neg h2] at hQ
            rw [tw_eq_f h2 (by omega) (by omega)]
            by_cases h3 : tx_to n tp s.1 = 40
            · rw [if_pos h3] at hQ
              rw [tw_eq_t h3]
              have hg := tx_one_gd (n := n) (tp := tp) hb f (d + 1)
              have H0 := ih D (d + 1) (by omega)
              have H1 := ih (D + 1) (d + 1) (by omega)
              rw [show 6 * f + 2 + D = 6 * f + D + 2 by omega] at H0
              rw [show 6 * f + 2 + (D + 1) = 6 * f + D + 1 + 2 by omega] at H1
              have E0 := tx_p_eith (D := 6 * f + D + 1) hu hb hg (tx_p_both (D := 6 * f + D) hu hb hg H0)
              have E1 := tx_p_eith (D := 6 * f + D + 2) hu hb hg (tx_p_both (D := 6 * f + D + 1) hu hb hg H1)
              have hR := tx_p_row (D := 6 * f + D + 1) hu hb hg E0 E1
              refine tx_p_wth (D := 6 * f + D + 3) hu hb (tx_row_gd (tp := tp) hg) hR (by omega) hs hM hv hC (by omega) (fun mi6 h6 => ?_)
              simp only [tz_75_0, tz_75_1, tz_75_4, tz_75_6, tz_75_9, tz_75_10, tz_75_13, tz_75_15, tz_75_18, tz_75_19, tz_75_22, tz_75_23, tz_75_24, tz_75_26, tz_75_29, tz_75_30, tz_75_33, tz_75_34, tz_75_35, tz_75_38, tz_75_72, tz_75_73, tz_75_74, tz_75_75, tz_75_76, tz_75_79, tz_75_80, tz_75_81, tz_75_82, tz_75_83, tz_75_84, tz_75_87, tz_75_88, tz_75_89, tz_75_90, tz_75_91, tz_75_92, tz_75_95, tz_75_96, tz_75_97, tz_75_100, tw_va_s, tw_va_n, tw_K_s, tw_K_n, and_true, true_and, and_false, false_and, true_or, or_true, not_true_eq_false, not_false_eq_true, ↓reduceIte, Nat.reduceEqDiff]
              exact hQ mi6 h6
            · rw [if_neg h3] at hQ
              rw [tw_eq_f h3 (by omega) (by omega), tw_eq_f h1 (by omega) (by omega)]
              refine tx_p_refuse hu hC (fun mi6 h6 => ?_)
              simp only [tz_75_0, tz_75_1, tz_75_4, tz_75_6, tz_75_9, tz_75_10, tz_75_13, tz_75_15, tz_75_18, tz_75_19, tz_75_22, tz_75_23, tz_75_24, tz_75_26, tz_75_29, tz_75_30, tz_75_33, tz_75_34, tz_75_35, tz_75_38, tz_75_72, tz_75_73, tz_75_74, tz_75_75, tz_75_76, tz_75_79, tz_75_80, tz_75_81, tz_75_82, tz_75_83, tz_75_84, tz_75_87, tz_75_88, tz_75_89, tz_75_90, tz_75_91, tz_75_92, tz_75_95, tz_75_96, tz_75_97, tz_75_100, tw_va_s, tw_va_n, tw_K_s, tw_K_n, and_true, true_and, and_false, false_and, true_or, or_true, not_true_eq_false, not_false_eq_true, ↓reduceIte, Nat.reduceEqDiff]
              exact hQ mi6 h6
    by_cases c1 : tx_to n tp s.1 < 97
    · rw [tw_lt_t c1 (by omega)]
      have z := rest (fun z => by omega)
      simp only [tz_75_0, tz_75_1, tz_75_4, tz_75_6, tz_75_9, tz_75_10, tz_75_13, tz_75_15, tz_75_18, tz_75_19, tz_75_22, tz_75_23, tz_75_24, tz_75_26, tz_75_29, tz_75_30, tz_75_33, tz_75_34, tz_75_35, tz_75_38, tz_75_72, tz_75_73, tz_75_74, tz_75_75, tz_75_76, tz_75_79, tz_75_80, tz_75_81, tz_75_82, tz_75_83, tz_75_84, tz_75_87, tz_75_88, tz_75_89, tz_75_90, tz_75_91, tz_75_92, tz_75_95, tz_75_96, tz_75_97, tz_75_100, tk_127, tq_127_0, tq_i, tw_va_s, tw_va_n, tw_K_s, tw_K_n, and_true, true_and, and_false, false_and, true_or, or_true, not_true_eq_false, not_false_eq_true, ↓reduceIte, Nat.reduceEqDiff, hC.2.2.1.2.1, nI_1, tl10, tl256, tl33, tl40] at z
      exact z
    · rw [tw_lt_f (by omega) (by omega)]
      by_cases c2 : 112 < tx_to n tp s.1
      · rw [tw_lt_t c2 (by omega)]
        have z := rest (fun z => by omega)
        simp only [tz_75_0, tz_75_1, tz_75_4, tz_75_6, tz_75_9, tz_75_10, tz_75_13, tz_75_15, tz_75_18, tz_75_19, tz_75_22, tz_75_23, tz_75_24, tz_75_26, tz_75_29, tz_75_30, tz_75_33, tz_75_34, tz_75_35, tz_75_38, tz_75_72, tz_75_73, tz_75_74, tz_75_75, tz_75_76, tz_75_79, tz_75_80, tz_75_81, tz_75_82, tz_75_83, tz_75_84, tz_75_87, tz_75_88, tz_75_89, tz_75_90, tz_75_91, tz_75_92, tz_75_95, tz_75_96, tz_75_97, tz_75_100, tk_127, tq_127_0, tq_i, tw_va_s, tw_va_n, tw_K_s, tw_K_n, and_true, true_and, and_false, false_and, true_or, or_true, not_true_eq_false, not_false_eq_true, ↓reduceIte, Nat.reduceEqDiff, hC.2.2.1.2.1, nI_1, tl10, tl256, tl33, tl40] at z
        exact z
      · rw [tw_lt_f (by omega) (by omega)]
        rw [if_pos ⟨by omega, by omega⟩] at hQ
        refine tx_p_wire hu hb hs hM hC ⟨by omega, by omega⟩ (fun mi6 h6 => ?_)
        simp only [tz_75_0, tz_75_1, tz_75_4, tz_75_6, tz_75_9, tz_75_10, tz_75_13, tz_75_15, tz_75_18, tz_75_19, tz_75_22, tz_75_23, tz_75_24, tz_75_26, tz_75_29, tz_75_30, tz_75_33, tz_75_34, tz_75_35, tz_75_38, tz_75_72, tz_75_73, tz_75_74, tz_75_75, tz_75_76, tz_75_79, tz_75_80, tz_75_81, tz_75_82, tz_75_83, tz_75_84, tz_75_87, tz_75_88, tz_75_89, tz_75_90, tz_75_91, tz_75_92, tz_75_95, tz_75_96, tz_75_97, tz_75_100, tw_va_s, tw_va_n, tw_K_s, tw_K_n, and_true, true_and, and_false, false_and, true_or, or_true, not_true_eq_false, not_false_eq_true, ↓reduceIte, Nat.reduceEqDiff]
        exact hQ mi6 h6
end tw_cone2
