/-! the class reads: the parts of the descent, each over the one before -/
/-- a reading method at 'k' answers what g does, from a place p0 on -/
def tx_H (sc : Nat × (Nat → Int32)) (D k : Nat) (ls : tw_L) (mi0 : tw_I) (n : Nat) (tp : Nat → Nat) (u t s' p0 : Nat) (g : tx_S → tx_R) : Prop :=
  ∀ (mi : tw_I) (s : tx_S) (Q : Option Value → tw_G → tw_I → tw_Q → Prop), p0 ≤ s.1 → s.1 ≤ n → s.2.1 ≤ s.1 → tx_va s → tx_RC mi0 mi n tp u s → (∀ mi', tx_RR mi0 mi' n tp u (g s) → Q (some (.int (tx_ri (g s)))) tw_g0 mi' (tw_r0 t s' u)) → tw_E sc D k 0 ls [] tw_g0 mi (tw_r0 t s' u) Q
set_option maxRecDepth 100000 in
theorem tx_ri_l (e : Nat) : tx_ri (.inl e) = -9 := rfl
set_option maxRecDepth 100000 in
theorem tx_ri_r (r : Nat) (s : tx_S) : tx_ri (.inr (r, s)) = nI r := rfl
set_option maxRecDepth 100000 in
theorem tx_neg : ((-9 : Int32) < 0) = True := by decide +kernel
set_option maxRecDepth 100000 in
theorem tx_nng : ((0 : Int32) ≤ -9) = False := by decide +kernel
section tw_cones
variable {sc : Nat × (Nat → Int32)} {d t s' i n u p0 : Nat} {mi mi0 : tw_I} {Q : Option Value → tw_G → tw_I → tw_Q → Prop} {tp : Nat → Nat} {s : tx_S}
set_option maxRecDepth 100000 in
theorem tx_to_lt (hb : ∀ j, j < n → tp j < 256) (p : Nat) : tx_to n tp p ≤ 258 := by
  unfold tx_to
  split
  · rename_i z
    have := hb _ z
    split
    · split <;> omega
    · omega
  · omega
set_option maxRecDepth 100000 in
theorem tx_p_pass (hu : u = 1 ∨ u = 63) (hb : ∀ j, j < n → tp j < 256) (hC : tx_RC mi0 mi n tp u s) (hs : s.1 ≤ n) {c : Nat} (hc : c < 2 ^ 31) {cI : Int32} (hI : cI = nI c)
    (hY : tx_to n tp s.1 = c → ∀ mi', tx_RC mi0 mi' n tp u (tx_ad n tp s) → Q (some (.int 1)) tw_g0 mi' (tw_r0 t s' i)) (hN : ¬ tx_to n tp s.1 = c → Q (some (.int 0)) tw_g0 mi (tw_r0 t s' i)) : tw_E sc (d + 3) 82 0 [some (.ref 127), some (.int cI)] [] tw_g0 mi (tw_r0 t s' i) Q := by
  have hl := tx_to_lt hb s.1
  subst hI
  simp only [tz_82_0, tz_82_1, tz_82_4, tz_82_5, tz_82_8, tz_82_9, tz_82_10, tz_82_11, tz_82_14, tz_82_15, tk_127, tq_127_0, tq_i, tw_va_s, tw_va_n, tw_K_s, tw_K_n, and_true, true_and, and_false, false_and, true_or, or_true, not_true_eq_false, not_false_eq_true, ↓reduceIte, Nat.reduceEqDiff, hC.2.2.1.2.1]
  by_cases h : tx_to n tp s.1 = c
  · rw [tw_eq_t h]
    refine tx_p_go hu hb hC hs (fun mi' h' => ?_)
    simp only [tz_82_0, tz_82_1, tz_82_4, tz_82_5, tz_82_8, tz_82_9, tz_82_10, tz_82_11, tz_82_14, tz_82_15, tw_va_s, tw_va_n, tw_K_s, tw_K_n, and_true, true_and, and_false, false_and, true_or, or_true, not_true_eq_false, not_false_eq_true, ↓reduceIte, Nat.reduceEqDiff]
    exact hY h mi' h'
  · rw [tw_eq_f h (by omega) hc]
    exact hN h
set_option maxRecDepth 100000 in
theorem tx_p_mk (hu : u = 1 ∨ u = 63) (hC : tx_RC mi0 mi n tp u s) (hM : s.2.1 < 60) (kd : Nat) {K a b lo hi : Int32} (hK : K = nI kd)
    (hQ : ∀ mi', tx_RR mi0 mi' n tp u (tx_mk kd a b lo hi s) → Q (some (.int (nI s.2.1))) tw_g0 mi' (tw_r0 t s' u)) : tw_E sc (d + 2) 80 0 [some (.ref 127), some (.int K), some (.int a), some (.int b), some (.int lo), some (.int hi), none] [] tw_g0 mi (tw_r0 t s' u) Q := by
  subst hK
  exact tx_p_make hu hC hM kd a b lo hi hQ
set_option maxRecDepth 100000 in
theorem tx_p_edge {c : Nat} (hc : c ≤ 258) : tw_E sc d 87 0 [some (.int (nI c))] [] tw_g0 mi (tw_r0 t s' i) Q = Q (some (.int (if c = 43 then 0 else if c = 45 then 1 else if c = 126 then 2 else -9))) tw_g0 mi (tw_r0 t s' i) := by
  simp only [tz_87_0, tz_87_1, tz_87_36, tz_87_37, tz_87_38, tz_87_39, tz_87_40, tz_87_41, tz_87_42, tz_87_44, tw_va_s, tw_va_n, tw_K_s, tw_K_n, and_true, true_and, and_false, false_and, true_or, or_true, not_true_eq_false, not_false_eq_true, ↓reduceIte, Nat.reduceEqDiff, tl43, tl45, tl126]
  by_cases h1 : c = 43
  · rw [tw_eq_t h1, if_pos h1]
  · rw [tw_eq_f h1 (by omega) (by omega), if_neg h1]
    by_cases h2 : c = 45
    · rw [tw_eq_t h2, if_pos h2]
    · rw [tw_eq_f h2 (by omega) (by omega), if_neg h2]
      by_cases h3 : c = 126
      · rw [tw_eq_t h3, if_pos h3]
      · rw [tw_eq_f h3 (by omega) (by omega), if_neg h3]
set_option maxRecDepth 100000 in
theorem tx_p_wire (hu : u = 1 ∨ u = 63) (hb : ∀ j, j < n → tp j < 256) (hs : s.1 ≤ n) (hM : s.2.1 ≤ s.1) (hC : tx_RC mi0 mi n tp u s) (hw : 97 ≤ tx_to n tp s.1 ∧ tx_to n tp s.1 ≤ 112)
    (hQ : ∀ mi', tx_RR mi0 mi' n tp u (tx_wire n tp s) → Q (some (.int (tx_ri (tx_wire n tp s)))) tw_g0 mi' (tw_r0 t s' u)) : tw_E sc (d + 3) 76 0 [some (.ref 127), none, none] [] tw_g0 mi (tw_r0 t s' u) Q := by
  have hn := hC.2.1.1
  have hl := tx_en_lt (tp := tp) hs (by omega)
  have hl2 := tx_en_le (tp := tp) hs
  have hl3 := tx_en_le (tp := tp) hl2.2.1
  have hl4 := tx_pl_le (tp := tp) hl2.2.1
  have e1 : nI (tx_to n tp s.1) - 97 = nI (tx_to n tp s.1 - 97) := pk_sub (b := 97) hw.1
  simp only [tz_76_0, tz_76_1, tz_76_4, tz_76_6, tz_76_7, tz_76_8, tz_76_9, tz_76_12, tz_76_13, tz_76_16, tz_76_19, tz_76_20, tz_76_21, tz_76_23, tz_76_26, tz_76_27, tz_76_28, tz_76_29, tz_76_31, tz_76_33, tz_76_35, tz_76_38, tz_76_39, tz_76_40, tz_76_43, tz_76_44, tz_76_45, tz_76_46, tz_76_47, tz_76_49, tz_76_51, tz_76_54, tk_127, tq_127_0, tq_i, tw_va_s, tw_va_n, tw_K_s, tw_K_n, and_true, true_and, and_false, false_and, true_or, or_true, not_true_eq_false, not_false_eq_true, ↓reduceIte, Nat.reduceEqDiff, hC.2.2.1.2.1, e1]
  refine tx_p_go hu hb hC hs (fun mi' h' => ?_)
  have h2 : mi' 127 2 = nI (tx_to n tp (tx_en n tp s.1)) := h'.2.2.1.2.1
  simp only [tz_76_0, tz_76_1, tz_76_4, tz_76_6, tz_76_7, tz_76_8, tz_76_9, tz_76_12, tz_76_13, tz_76_16, tz_76_19, tz_76_20, tz_76_21, tz_76_23, tz_76_26, tz_76_27, tz_76_28, tz_76_29, tz_76_31, tz_76_33, tz_76_35, tz_76_38, tz_76_39, tz_76_40, tz_76_43, tz_76_44, tz_76_45, tz_76_46, tz_76_47, tz_76_49, tz_76_51, tz_76_54, tk_127, tq_127_0, tq_i, tw_va_s, tw_va_n, tw_K_s, tw_K_n, and_true, true_and, and_false, false_and, true_or, or_true, not_true_eq_false, not_false_eq_true, ↓reduceIte, Nat.reduceEqDiff, h2, tx_p_edge (tx_to_lt hb (tx_en n tp s.1))]
  unfold tx_wire at hQ
  have edge : ∀ z : Int32, ¬ z = -9 → (∀ mi', tx_RR mi0 mi' n tp u (tx_mk 1 (nI (tx_to n tp s.1 - 97)) z (-9) (-9) (tx_ad n tp (tx_ad n tp s))) → Q (some (.int (nI s.2.1))) tw_g0 mi' (tw_r0 t s' u)) → ∀ A : Prop, (if ¬ z = -9 then tw_E sc (d + 2) 83 0 [some (.ref 127)] [] tw_g0 mi' (tw_r0 t s' u) (tw_K sc (d + 2 + 1) 76 43 [some (.ref 127), some (.int (nI (tx_to n tp s.1 - 97))), some (.int z)] [] Q) else A) := by
    intro z hz hq A
    rw [if_pos hz]
    refine tx_p_go hu hb h' hl2.2.1 (fun mi'' h'' => ?_)
    simp only [tz_76_0, tz_76_1, tz_76_4, tz_76_6, tz_76_7, tz_76_8, tz_76_9, tz_76_12, tz_76_13, tz_76_16, tz_76_19, tz_76_20, tz_76_21, tz_76_23, tz_76_26, tz_76_27, tz_76_28, tz_76_29, tz_76_31, tz_76_33, tz_76_35, tz_76_38, tz_76_39, tz_76_40, tz_76_43, tz_76_44, tz_76_45, tz_76_46, tz_76_47, tz_76_49, tz_76_51, tz_76_54, tk_127, tq_127_0, tq_i, tw_va_s, tw_va_n, tw_K_s, tw_K_n, and_true, true_and, and_false, false_and, true_or, or_true, not_true_eq_false, not_false_eq_true, ↓reduceIte, Nat.reduceEqDiff]
    refine tx_p_mk hu h'' (by show s.2.1 < 60; omega) 1 tl1 (fun mi3 h3 => ?_)
    simp only [tz_76_0, tz_76_1, tz_76_4, tz_76_6, tz_76_7, tz_76_8, tz_76_9, tz_76_12, tz_76_13, tz_76_16, tz_76_19, tz_76_20, tz_76_21, tz_76_23, tz_76_26, tz_76_27, tz_76_28, tz_76_29, tz_76_31, tz_76_33, tz_76_35, tz_76_38, tz_76_39, tz_76_40, tz_76_43, tz_76_44, tz_76_45, tz_76_46, tz_76_47, tz_76_49, tz_76_51, tz_76_54, tw_va_s, tw_va_n, tw_K_s, tw_K_n, and_true, true_and, and_false, false_and, true_or, or_true, not_true_eq_false, not_false_eq_true, ↓reduceIte, Nat.reduceEqDiff]
    exact hq mi3 h3
  by_cases c1 : tx_to n tp (tx_en n tp s.1) = 43
  · rw [if_pos c1] at hQ ⊢
    exact edge 0 (by decide) hQ _
  · rw [if_neg c1] at hQ ⊢
    by_cases c2 : tx_to n tp (tx_en n tp s.1) = 45
    · rw [if_pos c2] at hQ ⊢
      exact edge 1 (by decide) hQ _
    · rw [if_neg c2] at hQ ⊢
      by_cases c3 : tx_to n tp (tx_en n tp s.1) = 126
      · rw [if_pos c3] at hQ ⊢
        exact edge 2 (by decide) hQ _
      · rw [if_neg c3] at hQ ⊢
        simp only [tz_76_0, tz_76_1, tz_76_4, tz_76_6, tz_76_7, tz_76_8, tz_76_9, tz_76_12, tz_76_13, tz_76_16, tz_76_19, tz_76_20, tz_76_21, tz_76_23, tz_76_26, tz_76_27, tz_76_28, tz_76_29, tz_76_31, tz_76_33, tz_76_35, tz_76_38, tz_76_39, tz_76_40, tz_76_43, tz_76_44, tz_76_45, tz_76_46, tz_76_47, tz_76_49, tz_76_51, tz_76_54, tk_127, tq_127_0, tq_i, tw_va_s, tw_va_n, tw_K_s, tw_K_n, and_true, true_and, and_false, false_and, true_or, or_true, not_true_eq_false, not_false_eq_true, ↓reduceIte, Nat.reduceEqDiff]
        refine tx_p_mk hu h' (by show s.2.1 < 60; omega) 0 tl0 (fun mi3 h3 => ?_)
        simp only [tz_76_0, tz_76_1, tz_76_4, tz_76_6, tz_76_7, tz_76_8, tz_76_9, tz_76_12, tz_76_13, tz_76_16, tz_76_19, tz_76_20, tz_76_21, tz_76_23, tz_76_26, tz_76_27, tz_76_28, tz_76_29, tz_76_31, tz_76_33, tz_76_35, tz_76_38, tz_76_39, tz_76_40, tz_76_43, tz_76_44, tz_76_45, tz_76_46, tz_76_47, tz_76_49, tz_76_51, tz_76_54, tw_va_s, tw_va_n, tw_K_s, tw_K_n, and_true, true_and, and_false, false_and, true_or, or_true, not_true_eq_false, not_false_eq_true, ↓reduceIte, Nat.reduceEqDiff]
        exact hQ mi3 h3
set_option maxRecDepth 100000 in
theorem tx_p_not {D e : Nat} {g : tx_S → tx_R} (hu : u = 1 ∨ u = 63) (hb : ∀ j, j < n → tp j < 256) (hg : tx_G n g) (H : tx_H sc (D + 2) 75 [some (.ref 127), some (.int (nI e))] mi0 n tp u t s' p0 g) (hp : p0 ≤ s.1 + 1) (hs : s.1 ≤ n) (hM : s.2.1 ≤ s.1) (hv : tx_va s) (hC : tx_RC mi0 mi n tp u s) (ht : ¬ tx_to n tp s.1 = 257)
    (hQ : ∀ mi', tx_RR mi0 mi' n tp u (match g (tx_ad n tp s) with | .inl e => .inl e | .inr (r, s2) => tx_mk 2 (nI r) (-9) (-9) (-9) s2) → Q (some (.int (tx_ri (match g (tx_ad n tp s) with | .inl e => .inl e | .inr (r, s2) => tx_mk 2 (nI r) (-9) (-9) (-9) s2)))) tw_g0 mi' (tw_r0 t s' u)) : tw_E sc (D + 3) 78 0 [some (.ref 127), some (.int (nI e)), none] [] tw_g0 mi (tw_r0 t s' u) Q := by
  have hn := hC.2.1.1
  have l1 := tx_en_lt (tp := tp) hs ht
  have l2 := tx_en_le (tp := tp) hs
  have hgd := hg (tx_ad n tp s) l2.2.1 hv
  simp only [tz_78_0, tz_78_1, tz_78_4, tz_78_5, tz_78_6, tz_78_9, tz_78_10, tz_78_11, tz_78_14, tz_78_15, tz_78_18, tz_78_19, tz_78_20, tz_78_21, tz_78_23, tz_78_25, tz_78_27, tz_78_30, tk_127, tq_127_0, tq_i, tw_va_s, tw_va_n, tw_K_s, tw_K_n, and_true, true_and, and_false, false_and, true_or, or_true, not_true_eq_false, not_false_eq_true, ↓reduceIte, Nat.reduceEqDiff]
  refine tx_p_go hu hb hC hs (fun mi' h' => ?_)
  simp only [tz_78_0, tz_78_1, tz_78_4, tz_78_5, tz_78_6, tz_78_9, tz_78_10, tz_78_11, tz_78_14, tz_78_15, tz_78_18, tz_78_19, tz_78_20, tz_78_21, tz_78_23, tz_78_25, tz_78_27, tz_78_30, tk_127, tq_127_0, tq_i, tw_va_s, tw_va_n, tw_K_s, tw_K_n, and_true, true_and, and_false, false_and, true_or, or_true, not_true_eq_false, not_false_eq_true, ↓reduceIte, Nat.reduceEqDiff]
  refine H mi' (tx_ad n tp s) _ (by show p0 ≤ tx_en n tp s.1; omega) l2.2.1 (by show s.2.1 ≤ tx_en n tp s.1; omega) hv h' (fun mi2 h2 => ?_)
  cases hr : g (tx_ad n tp s) with
  | inl e =>
    rw [hr] at h2 hQ
    simp only [tz_78_0, tz_78_1, tz_78_4, tz_78_5, tz_78_6, tz_78_9, tz_78_10, tz_78_11, tz_78_14, tz_78_15, tz_78_18, tz_78_19, tz_78_20, tz_78_21, tz_78_23, tz_78_25, tz_78_27, tz_78_30, tk_127, tq_127_0, tq_i, tw_va_s, tw_va_n, tw_K_s, tw_K_n, and_true, true_and, and_false, false_and, true_or, or_true, not_true_eq_false, not_false_eq_true, ↓reduceIte, Nat.reduceEqDiff, tx_ri_l, tx_nng]
    exact hQ mi2 h2
  | inr q =>
    rw [hr] at h2 hQ hgd
    obtain ⟨r, s2⟩ := q
    obtain ⟨g1, g2, g3, g4, g5, g6, g7⟩ := hgd
    have g1' : tx_en n tp s.1 < s2.1 := g1
    have g3' : s2.2.1 + tx_en n tp s.1 ≤ s2.1 + s.2.1 := g3
    have hr0 : (0 : Int32) ≤ nI r := Int32.not_lt.mp (nI_pos (by omega))
    simp only [tz_78_0, tz_78_1, tz_78_4, tz_78_5, tz_78_6, tz_78_9, tz_78_10, tz_78_11, tz_78_14, tz_78_15, tz_78_18, tz_78_19, tz_78_20, tz_78_21, tz_78_23, tz_78_25, tz_78_27, tz_78_30, tk_127, tq_127_0, tq_i, tw_va_s, tw_va_n, tw_K_s, tw_K_n, and_true, true_and, and_false, false_and, true_or, or_true, not_true_eq_false, not_false_eq_true, ↓reduceIte, Nat.reduceEqDiff, tx_ri_r, hr0]
    refine tx_p_mk hu h2 (by omega) 2 tl2 (fun mi3 h3 => ?_)
    simp only [tz_78_0, tz_78_1, tz_78_4, tz_78_5, tz_78_6, tz_78_9, tz_78_10, tz_78_11, tz_78_14, tz_78_15, tz_78_18, tz_78_19, tz_78_20, tz_78_21, tz_78_23, tz_78_25, tz_78_27, tz_78_30, tw_va_s, tw_va_n, tw_K_s, tw_K_n, and_true, true_and, and_false, false_and, true_or, or_true, not_true_eq_false, not_false_eq_true, ↓reduceIte, Nat.reduceEqDiff]
    exact hQ mi3 h3
end tw_cones
