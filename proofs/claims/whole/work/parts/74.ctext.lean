/-! the class reads the whole text -/
set_option maxRecDepth 100000 in
theorem tw_r0_i (t s i j : Nat) : tw_st (tw_r0 t s i) 127 (tw_st (tw_r0 t s i 127) 1 (some j)) = tw_r0 t s j := by
  funext a k
  by_cases ha : a = 127
  · subst ha
    by_cases hk : k = 1
    · subst hk
      rw [tw_st_s, tw_st_s, tq_i]
    · rw [tw_st_s, tw_st_n _ _ hk]
      unfold tw_r0
      rw [if_neg (by omega), if_neg (by omega), if_neg (show ¬ (127 = 127 ∧ k = 1) from fun z => hk z.2), if_neg (show ¬ (127 = 0 ∧ k = 7) by omega), if_neg (show ¬ (127 = 0 ∧ k = 8) by omega), if_neg (show ¬ (127 = 127 ∧ k = 1) from fun z => hk z.2)]
  · rw [tw_st_n _ _ ha]
    unfold tw_r0
    rw [if_neg (show ¬ (a = 127 ∧ k = 1) from fun z => ha z.1), if_neg (show ¬ (a = 127 ∧ k = 1) from fun z => ha z.1)]
set_option maxRecDepth 100000 in
theorem tw_r0_t (t s i j : Nat) : tw_st (tw_r0 t s i) 0 (tw_st (tw_r0 t s i 0) 7 (some j)) = tw_r0 j s i := by
  funext a k
  by_cases ha : a = 0
  · subst ha
    by_cases hk : k = 7
    · subst hk
      rw [tw_st_s, tw_st_s, tq_t]
    · rw [tw_st_s, tw_st_n _ _ hk]
      unfold tw_r0
      rw [if_neg (show ¬ (0 = 0 ∧ k = 7) from fun z => hk z.2), if_neg (show ¬ (0 = 0 ∧ k = 7) from fun z => hk z.2)]
  · rw [tw_st_n _ _ ha]
    unfold tw_r0
    rw [if_neg (show ¬ (a = 0 ∧ k = 7) from fun z => ha z.1), if_neg (show ¬ (a = 0 ∧ k = 7) from fun z => ha z.1)]
set_option maxRecDepth 100000 in
theorem tw_r0_s (t s i j : Nat) : tw_st (tw_r0 t s i) 0 (tw_st (tw_r0 t s i 0) 8 (some j)) = tw_r0 t j i := by
  funext a k
  by_cases ha : a = 0
  · subst ha
    by_cases hk : k = 8
    · subst hk
      rw [tw_st_s, tw_st_s, tq_s]
    · rw [tw_st_s, tw_st_n _ _ hk]
      unfold tw_r0
      by_cases h7 : k = 7
      · rw [if_pos (show 0 = 0 ∧ k = 7 from ⟨rfl, h7⟩), if_pos (show 0 = 0 ∧ k = 7 from ⟨rfl, h7⟩)]
      · rw [if_neg (show ¬ (0 = 0 ∧ k = 7) from fun z => h7 z.2), if_neg (show ¬ (0 = 0 ∧ k = 7) from fun z => h7 z.2), if_neg (show ¬ (0 = 0 ∧ k = 8) from fun z => hk z.2), if_neg (show ¬ (0 = 0 ∧ k = 8) from fun z => hk z.2)]
  · rw [tw_st_n _ _ ha]
    unfold tw_r0
    by_cases h7 : a = 0 ∧ k = 7
    · exact absurd h7.1 ha
    · rw [if_neg h7, if_neg h7, if_neg (show ¬ (a = 0 ∧ k = 8) from fun z => ha z.1), if_neg (show ¬ (a = 0 ∧ k = 8) from fun z => ha z.1)]
/-- what a text makes: none when it is refused -/
def tx_acc : tx_R → Option (Nat × (Nat → tw_Nd))
  | .inl _ => none
  | .inr (_, s) => if s.2.2.2 = -9 then some (s.2.1, s.2.2.1) else none
/-- what read answers, what fault answers then -/
def tx_an : tx_R → Int32
  | .inl e => -100 - nI e
  | .inr (_, s) => if s.2.2.2 = -9 then nI s.2.1 else -100 - s.2.2.2
def tx_fl : tx_R → Int32
  | .inl _ => 1
  | .inr (_, s) => if s.2.2.2 = -9 then 0 else 2
set_option maxRecDepth 100000 in
theorem tx_read_gd {n : Nat} {tp : Nat → Nat} (hb : ∀ j, j < n → tp j < 256) : tx_gd n (0, 0, fun _ => (0, 0, 0, 0, 0), -9) (tx_row n tp (tx_one n tp 62 0) (0, 0, fun _ => (0, 0, 0, 0, 0), -9)) :=
  tx_row_gd (tp := tp) (tx_one_gd hb 62 0) (0, 0, fun _ => (0, 0, 0, 0, 0), -9) (Nat.zero_le n) (fun k hk => absurd hk (Nat.not_lt_zero k))
set_option maxRecDepth 100000 in
theorem tx_acc_pv {n : Nat} {tp : Nat → Nat} (hn : n ≤ 60) (hb : ∀ j, j < n → tp j < 256) {N : Nat} {pg : Nat → tw_Nd} (h : tx_acc (tx_read n tp) = some (N, pg)) : tw_pv N pg := by
  have hg := tx_read_gd (n := n) (tp := tp) hb
  unfold tx_read at h
  cases hr : tx_row n tp (tx_one n tp 62 0) (0, 0, fun _ => (0, 0, 0, 0, 0), -9) with
  | inl e => rw [hr] at h; cases h
  | inr q =>
    obtain ⟨r, s⟩ := q
    rw [hr] at h hg
    obtain ⟨g1, g2, g3, g4, g5, g6, g7⟩ := hg
    have g3' : s.2.1 + 0 ≤ s.1 + 0 := g3
    simp only at h
    split at h
    · unfold tx_acc at h
      simp only at h
      split at h
      · cases h
        exact ⟨by omega, g7⟩
      · cases h
    · cases h
section tw_ctext
variable {sc : Nat × (Nat → Int32)} {d t s' i n u p0 : Nat} {mi mi0 : tw_I} {Q : Option Value → tw_G → tw_I → tw_Q → Prop} {tp : Nat → Nat} {s : tx_S}
set_option maxRecDepth 100000 in
theorem tx_p_text (hu : u = 1 ∨ u = 63) (hn : n ≤ 60) (hb : ∀ j, j < n → tp j < 256) (D : Nat) : tx_H sc (378 + D) 70 [some (.ref 127), some (.int (nI 0)), none, none] mi0 n tp u t s' 0 (tx_row n tp (tx_one n tp 62 0)) := by
  have hg := tx_one_gd (n := n) (tp := tp) hb 62 0
  have H0 := tx_p_one (sc := sc) (mi0 := mi0) (t := t) (s' := s') hu hb 62 D 0 (by omega)
  have H1 := tx_p_one (sc := sc) (mi0 := mi0) (t := t) (s' := s') hu hb 62 (D + 1) 0 (by omega)
  rw [show n + 1 - 62 = 0 by omega] at H0 H1
  rw [show 6 * 62 + 2 + D = 372 + D + 2 by omega] at H0
  rw [show 6 * 62 + 2 + (D + 1) = 372 + D + 1 + 2 by omega] at H1
  have E0 := tx_p_eith (D := 372 + D + 1) hu hb hg (tx_p_both (D := 372 + D) hu hb hg H0)
  have E1 := tx_p_eith (D := 372 + D + 2) hu hb hg (tx_p_both (D := 372 + D + 1) hu hb hg H1)
  have hR := tx_p_row (D := 372 + D + 1) hu hb hg E0 E1
  rw [show 378 + D = 372 + D + 1 + 5 by omega]
  exact hR
/-- where the reader stands once the text is begun -/
def tx_s0 : tx_S := (0, 0, fun _ => (0, 0, 0, 0, 0), -9)
set_option maxRecDepth 100000 in
theorem tx_p_into (hu : u = 1 ∨ u = 63) (hb : ∀ j, j < n → tp j < 256) (hT : tw_CT mi n tp)
    (hQ : ∀ mi', tx_RR mi mi' n tp u (tx_read n tp) → Q (some (.int (if tx_fl (tx_read n tp) = 0 then 1 else 0))) tw_g0 mi' (tw_r0 t u u)) : tw_E sc (379 + d) 67 0 [some (.ref 127), some (.ref u), none] [] tw_g0 mi (tw_r0 t u i) Q := by
  have hn := hT.1
  have hgd := tx_read_gd (n := n) (tp := tp) hb
  rw [show 379 + d = 378 + d + 1 by omega]
  simp only [tz_67_0, tz_67_1, tz_67_1n, tz_67_2, tz_67_5, tz_67_5n, tz_67_6, tz_67_9, tz_67_10, tz_67_12, tz_67_15, tz_67_16, tz_67_18, tz_67_21, tz_67_22, tz_67_23, tz_67_26, tz_67_27, tz_67_30, tz_67_31, tz_67_32, tz_67_35, tz_67_36, tz_67_37, tz_67_40, tz_67_41, tz_67_44, tz_67_47, tz_67_50, tz_67_51, tz_67_54, tz_67_55, tz_67_56, tz_67_59, tz_67_62, tz_67_63, tz_67_66, tz_67_67, tz_36_0, tz_36_1, tz_36_2, tz_36_5, tk_127, tq_127_0, tq_i, tw_va_s, tw_va_n, tw_K_s, tw_K_n, and_true, true_and, and_false, false_and, true_or, or_true, not_true_eq_false, not_false_eq_true, ↓reduceIte, Nat.reduceEqDiff, tw_tk hu, tw_r0_i]
  have hfl : tx_fl (tx_read n tp) = match tx_read n tp with | .inl _ => 1 | .inr (_, s) => if s.2.2.2 = -9 then 0 else 2 := by
    unfold tx_fl
    rfl
  have h127 : ¬ (127 : Nat) = u := by omega
  have huu : ¬ u = 127 := by omega
  rw [show 378 + d = 376 + d + 2 by omega]
  refine tw_p_adv (n := n) (tp := tp) (p := 0) hb (Nat.zero_le n) ?_ ?_ (fun mi' w1 w2 w3 => ?_)
  · unfold tw_CT at hT ⊢
    simp only [tw_st_st]
    rw [tw_st_n _ _ (by omega), tw_st_n _ _ (by omega), tw_st_n _ _ (by omega), tw_st_n _ _ (by omega)]
    exact hT
  · simp [tw_st_ap, nI_0]
  · have hC : tx_RC mi mi' n tp u tx_s0 := by
      refine ⟨by show 0 ≤ 60; omega, ?_, w1, ?_, ?_, ?_, fun k hk => absurd hk (Nat.not_lt_zero k), fun a ha h => ?_⟩
      · unfold tw_CT at hT ⊢
        rw [w2 125 (by decide), w2 126 (by decide)]
        simp only [tw_st_st]
        rw [tw_st_n _ _ (by omega), tw_st_n _ _ (by omega), tw_st_n _ _ (by omega), tw_st_n _ _ (by omega)]
        exact hT
      · rw [w3 6 (by decide) (by decide) (by decide) (by decide)]
        simp [tw_st_ap]
      · rw [w3 7 (by decide) (by decide) (by decide) (by decide)]
        simp [tw_st_ap, tx_s0]
      · rw [w2 u huu]
        simp only [tw_st_st]
        rw [tw_st_n _ _ huu, tw_st_s, tw_st_s]
        rfl
      · rw [w2 a h]
        simp only [tw_st_st]
        rw [tw_st_n _ _ h, tw_st_n _ _ (by omega)]
    have H := tx_p_text (sc := sc) (mi0 := mi) (t := t) (s' := u) (n := n) (tp := tp) hu hn hb d
    simp only [tz_67_0, tz_67_1, tz_67_1n, tz_67_2, tz_67_5, tz_67_5n, tz_67_6, tz_67_9, tz_67_10, tz_67_12, tz_67_15, tz_67_16, tz_67_18, tz_67_21, tz_67_22, tz_67_23, tz_67_26, tz_67_27, tz_67_30, tz_67_31, tz_67_32, tz_67_35, tz_67_36, tz_67_37, tz_67_40, tz_67_41, tz_67_44, tz_67_47, tz_67_50, tz_67_51, tz_67_54, tz_67_55, tz_67_56, tz_67_59, tz_67_62, tz_67_63, tz_67_66, tz_67_67, tk_127, tq_127_0, tq_i, tw_va_s, tw_va_n, tw_K_s, tw_K_n, and_true, true_and, and_false, false_and, true_or, or_true, not_true_eq_false, not_false_eq_true, ↓reduceIte, Nat.reduceEqDiff]
    rw [show 376 + d + 2 = 378 + d by omega]
    refine H mi' tx_s0 _ (Nat.zero_le _) (Nat.zero_le _) (Nat.le_refl _) (fun k hk => absurd hk (Nat.not_lt_zero k)) hC (fun mi2 w4 => ?_)
    -- the end: what fault there is
    have fin : ∀ (mi3 : tw_I) (x2 : Option Value), tx_RR mi mi3 n tp u (tx_read n tp) → (∀ e, tx_read n tp = .inl e → e ≤ n) → tw_E sc (378 + d + 1) 67 55 [some (.ref 127), some (.ref u), x2] [] tw_g0 mi3 (tw_r0 t u u) Q := by
      intro mi3 x2 h3 he
      have hq := hQ mi3 h3
      cases hr : tx_read n tp with
      | inl e =>
        rw [hr] at h3 hq
        have h6 : ¬ nI e = -9 := fun z => absurd (z ▸ nI_pos (show e < 2 ^ 31 by have := he e hr; omega)) (by decide)
        simp only [tz_67_0, tz_67_1, tz_67_1n, tz_67_2, tz_67_5, tz_67_5n, tz_67_6, tz_67_9, tz_67_10, tz_67_12, tz_67_15, tz_67_16, tz_67_18, tz_67_21, tz_67_22, tz_67_23, tz_67_26, tz_67_27, tz_67_30, tz_67_31, tz_67_32, tz_67_35, tz_67_36, tz_67_37, tz_67_40, tz_67_41, tz_67_44, tz_67_47, tz_67_50, tz_67_51, tz_67_54, tz_67_55, tz_67_56, tz_67_59, tz_67_62, tz_67_63, tz_67_66, tz_67_67, tz_68_0, tz_68_1, tz_68_4, tz_68_6, tz_68_9, tz_68_10, tz_68_11, tz_68_12, tz_68_15, tz_68_17, tz_68_20, tz_68_21, tz_68_24, tz_68_25, tk_127, tq_127_0, tq_i, tw_va_s, tw_va_n, tw_K_s, tw_K_n, and_true, true_and, and_false, false_and, true_or, or_true, not_true_eq_false, not_false_eq_true, ↓reduceIte, Nat.reduceEqDiff, h3.1, h6, show ¬ (1 : Int32) = 0 by decide]
        exact hq
      | inr q =>
        obtain ⟨r, s⟩ := q
        rw [hr] at h3 hq
        simp only [tx_fl] at hq
        simp only [tz_67_0, tz_67_1, tz_67_1n, tz_67_2, tz_67_5, tz_67_5n, tz_67_6, tz_67_9, tz_67_10, tz_67_12, tz_67_15, tz_67_16, tz_67_18, tz_67_21, tz_67_22, tz_67_23, tz_67_26, tz_67_27, tz_67_30, tz_67_31, tz_67_32, tz_67_35, tz_67_36, tz_67_37, tz_67_40, tz_67_41, tz_67_44, tz_67_47, tz_67_50, tz_67_51, tz_67_54, tz_67_55, tz_67_56, tz_67_59, tz_67_62, tz_67_63, tz_67_66, tz_67_67, tz_68_0, tz_68_1, tz_68_4, tz_68_6, tz_68_9, tz_68_10, tz_68_11, tz_68_12, tz_68_15, tz_68_17, tz_68_20, tz_68_21, tz_68_24, tz_68_25, tk_127, tq_127_0, tq_i, tw_va_s, tw_va_n, tw_K_s, tw_K_n, and_true, true_and, and_false, false_and, true_or, or_true, not_true_eq_false, not_false_eq_true, ↓reduceIte, Nat.reduceEqDiff, h3.2.2.2.1, h3.2.2.2.2.1]
        by_cases h9 : s.2.2.2 = -9
        · simp only [h9, ↓reduceIte] at hq
          simp only [h9, tz_67_0, tz_67_1, tz_67_1n, tz_67_2, tz_67_5, tz_67_5n, tz_67_6, tz_67_9, tz_67_10, tz_67_12, tz_67_15, tz_67_16, tz_67_18, tz_67_21, tz_67_22, tz_67_23, tz_67_26, tz_67_27, tz_67_30, tz_67_31, tz_67_32, tz_67_35, tz_67_36, tz_67_37, tz_67_40, tz_67_41, tz_67_44, tz_67_47, tz_67_50, tz_67_51, tz_67_54, tz_67_55, tz_67_56, tz_67_59, tz_67_62, tz_67_63, tz_67_66, tz_67_67, tw_va_s, tw_va_n, tw_K_s, tw_K_n, and_true, true_and, and_false, false_and, true_or, or_true, not_true_eq_false, not_false_eq_true, ↓reduceIte, Nat.reduceEqDiff]
          exact hq
        · simp only [h9, show ¬ (2 : Int32) = 0 by decide, ↓reduceIte] at hq
          simp only [h9, tz_67_0, tz_67_1, tz_67_1n, tz_67_2, tz_67_5, tz_67_5n, tz_67_6, tz_67_9, tz_67_10, tz_67_12, tz_67_15, tz_67_16, tz_67_18, tz_67_21, tz_67_22, tz_67_23, tz_67_26, tz_67_27, tz_67_30, tz_67_31, tz_67_32, tz_67_35, tz_67_36, tz_67_37, tz_67_40, tz_67_41, tz_67_44, tz_67_47, tz_67_50, tz_67_51, tz_67_54, tz_67_55, tz_67_56, tz_67_59, tz_67_62, tz_67_63, tz_67_66, tz_67_67, tw_va_s, tw_va_n, tw_K_s, tw_K_n, and_true, true_and, and_false, false_and, true_or, or_true, not_true_eq_false, not_false_eq_true, ↓reduceIte, Nat.reduceEqDiff, show ¬ (2 : Int32) = 0 by decide]
          exact hq
    have hrd : tx_read n tp = match tx_row n tp (tx_one n tp 62 0) tx_s0 with
      | .inl e => .inl e
      | .inr (r, s) => if tx_to n tp s.1 = 257 then .inr (r, s) else .inl (tx_pl n tp s.1) := rfl
    have hgd' : tx_gd n tx_s0 (tx_row n tp (tx_one n tp 62 0) tx_s0) := hgd
    cases hr : tx_row n tp (tx_one n tp 62 0) tx_s0 with
    | inl e =>
      rw [hr] at w4 hrd hgd'
      simp only at hrd
      have := fin mi2 (some (.int (-9))) (by rw [hrd]; exact w4) (fun e' he => by rw [hrd] at he; cases he; exact hgd')
      simp only [tz_67_0, tz_67_1, tz_67_1n, tz_67_2, tz_67_5, tz_67_5n, tz_67_6, tz_67_9, tz_67_10, tz_67_12, tz_67_15, tz_67_16, tz_67_18, tz_67_21, tz_67_22, tz_67_23, tz_67_26, tz_67_27, tz_67_30, tz_67_31, tz_67_32, tz_67_35, tz_67_36, tz_67_37, tz_67_40, tz_67_41, tz_67_44, tz_67_47, tz_67_50, tz_67_51, tz_67_54, tz_67_55, tz_67_56, tz_67_59, tz_67_62, tz_67_63, tz_67_66, tz_67_67, tk_127, tq_127_0, tq_i, tw_va_s, tw_va_n, tw_K_s, tw_K_n, and_true, true_and, and_false, false_and, true_or, or_true, not_true_eq_false, not_false_eq_true, ↓reduceIte, Nat.reduceEqDiff, tx_ri_l, tx_neg] at this ⊢
      exact this
    | inr q =>
      obtain ⟨r, s⟩ := q
      rw [hr] at w4 hrd hgd'
      obtain ⟨g1, g2, g3, g4, g5, g6, g7⟩ := hgd'
      have g3' : s.2.1 + 0 ≤ s.1 + 0 := g3
      have hl := tx_to_lt hb s.1
      have hp := tx_pl_le (tp := tp) g2
      have hr0 : ¬ nI r < 0 := nI_pos (by omega)
      have v2 : mi2 127 2 = nI (tx_to n tp s.1) := w4.2.2.1.2.1
      simp only at hrd
      by_cases h257 : tx_to n tp s.1 = 257
      · rw [if_pos h257] at hrd
        have := fin mi2 (some (.int (nI r))) (by rw [hrd]; exact w4) (fun e' he => by rw [hrd] at he; cases he)
        simp only [tz_67_0, tz_67_1, tz_67_1n, tz_67_2, tz_67_5, tz_67_5n, tz_67_6, tz_67_9, tz_67_10, tz_67_12, tz_67_15, tz_67_16, tz_67_18, tz_67_21, tz_67_22, tz_67_23, tz_67_26, tz_67_27, tz_67_30, tz_67_31, tz_67_32, tz_67_35, tz_67_36, tz_67_37, tz_67_40, tz_67_41, tz_67_44, tz_67_47, tz_67_50, tz_67_51, tz_67_54, tz_67_55, tz_67_56, tz_67_59, tz_67_62, tz_67_63, tz_67_66, tz_67_67, tk_127, tq_127_0, tq_i, tw_va_s, tw_va_n, tw_K_s, tw_K_n, and_true, true_and, and_false, false_and, true_or, or_true, not_true_eq_false, not_false_eq_true, ↓reduceIte, Nat.reduceEqDiff] at this
        simp only [tz_67_0, tz_67_1, tz_67_1n, tz_67_2, tz_67_5, tz_67_5n, tz_67_6, tz_67_9, tz_67_10, tz_67_12, tz_67_15, tz_67_16, tz_67_18, tz_67_21, tz_67_22, tz_67_23, tz_67_26, tz_67_27, tz_67_30, tz_67_31, tz_67_32, tz_67_35, tz_67_36, tz_67_37, tz_67_40, tz_67_41, tz_67_44, tz_67_47, tz_67_50, tz_67_51, tz_67_54, tz_67_55, tz_67_56, tz_67_59, tz_67_62, tz_67_63, tz_67_66, tz_67_67, tk_127, tq_127_0, tq_i, tw_va_s, tw_va_n, tw_K_s, tw_K_n, and_true, true_and, and_false, false_and, true_or, or_true, not_true_eq_false, not_false_eq_true, ↓reduceIte, Nat.reduceEqDiff, tx_ri_r, hr0, v2, tl257]
        rw [tw_eq_t h257]
        exact this
      · rw [if_neg h257] at hrd
        simp only [tz_67_0, tz_67_1, tz_67_1n, tz_67_2, tz_67_5, tz_67_5n, tz_67_6, tz_67_9, tz_67_10, tz_67_12, tz_67_15, tz_67_16, tz_67_18, tz_67_21, tz_67_22, tz_67_23, tz_67_26, tz_67_27, tz_67_30, tz_67_31, tz_67_32, tz_67_35, tz_67_36, tz_67_37, tz_67_40, tz_67_41, tz_67_44, tz_67_47, tz_67_50, tz_67_51, tz_67_54, tz_67_55, tz_67_56, tz_67_59, tz_67_62, tz_67_63, tz_67_66, tz_67_67, tk_127, tq_127_0, tq_i, tw_va_s, tw_va_n, tw_K_s, tw_K_n, and_true, true_and, and_false, false_and, true_or, or_true, not_true_eq_false, not_false_eq_true, ↓reduceIte, Nat.reduceEqDiff, tx_ri_r, hr0, v2, tl257]
        rw [tw_eq_f h257 (by omega) (by omega)]
        refine tx_p_refuse hu w4 (fun mi3 w5 => ?_)
        have := fin mi3 (some (.int (nI r))) (by rw [hrd]; exact w5) (fun e' he => by rw [hrd] at he; cases he; exact hp.2)
        simp only [tz_67_0, tz_67_1, tz_67_1n, tz_67_2, tz_67_5, tz_67_5n, tz_67_6, tz_67_9, tz_67_10, tz_67_12, tz_67_15, tz_67_16, tz_67_18, tz_67_21, tz_67_22, tz_67_23, tz_67_26, tz_67_27, tz_67_30, tz_67_31, tz_67_32, tz_67_35, tz_67_36, tz_67_37, tz_67_40, tz_67_41, tz_67_44, tz_67_47, tz_67_50, tz_67_51, tz_67_54, tz_67_55, tz_67_56, tz_67_59, tz_67_62, tz_67_63, tz_67_66, tz_67_67, tk_127, tq_127_0, tq_i, tw_va_s, tw_va_n, tw_K_s, tw_K_n, and_true, true_and, and_false, false_and, true_or, or_true, not_true_eq_false, not_false_eq_true, ↓reduceIte, Nat.reduceEqDiff] at this ⊢
        exact this
set_option maxRecDepth 100000 in
theorem tx_p_read (ht : (t = 1 ∧ u = 63) ∨ (t = 63 ∧ u = 1)) (hb : ∀ j, j < n → tp j < 256) (hT : tw_CT mi n tp)
    (hQ1 : tx_acc (tx_read n tp) = none → ∀ mi', tw_fk mi' = tx_fl (tx_read n tp) → (∀ a, a < u ∨ u + 62 ≤ a → a ≠ 127 → mi' a = mi a) → Q (some (.int (tx_an (tx_read n tp)))) tw_g0 mi' (tw_r0 t u u))
    (hQ2 : ∀ N pg, tx_acc (tx_read n tp) = some (N, pg) → ∀ mi', tw_CS mi' u N pg tw_S0 → tw_CT mi' 0 tp → tw_fk mi' = tx_fl (tx_read n tp) → (∀ a, a < u ∨ u + 62 ≤ a → a ≠ 125 → a ≠ 127 → a ≠ 128 → mi' a = mi a) → Q (some (.int (tx_an (tx_read n tp)))) tw_g0 mi' (tw_r0 u t u)) :
    tw_E sc (380 + d) 3 0 [some (.ref 0), none] [] tw_g0 mi (tw_r0 t u i) Q := by
  have hn := hT.1
  have hu : u = 1 ∨ u = 63 := by omega
  have htt : t = 1 ∨ t = 63 := by omega
  have hgd : tx_gd n tx_s0 (tx_row n tp (tx_one n tp 62 0) tx_s0) := tx_read_gd (n := n) (tp := tp) hb
  have he : ∀ e, tx_read n tp = .inl e → e ≤ n := by
    have hrd : tx_read n tp = match tx_row n tp (tx_one n tp 62 0) tx_s0 with
      | .inl e => .inl e
      | .inr (r, s) => if tx_to n tp s.1 = 257 then .inr (r, s) else .inl (tx_pl n tp s.1) := rfl
    intro e h
    rw [hrd] at h
    cases hr : tx_row n tp (tx_one n tp 62 0) tx_s0 with
    | inl e' => rw [hr] at h hgd; cases h; exact hgd
    | inr q =>
      obtain ⟨r, s⟩ := q
      rw [hr] at h hgd
      simp only at h
      split at h
      · cases h
      · cases h
        exact (tx_pl_le (tp := tp) hgd.2.1).2
  rw [show 380 + d = 379 + d + 1 by omega]
  simp only [tz_3_0, tz_3_1, tz_3_4, tz_3_5, tz_3_8, tz_3_11, tz_3_14, tz_3_16, tz_3_17, tz_3_20, tz_3_23, tz_3_24, tz_3_25, tz_3_26, tz_3_29, tz_3_29n, tz_3_30, tz_3_31, tz_3_32, tz_3_35, tz_3_38, tz_3_39, tz_3_39n, tz_3_40, tz_3_43, tz_3_44, tz_3_47, tz_3_48, tz_3_51, tz_3_54, tz_3_55, tz_3_58, tz_3_61, tk_0, tq_0_0, tq_0_1, tq_0_2, tq_0_3, tq_0_4, tq_0_5, tq_0_6, tq_t, tq_s, tk_127, tq_127_0, tq_i, tw_va_s, tw_va_n, tw_K_s, tw_K_n, and_true, true_and, and_false, false_and, true_or, or_true, not_true_eq_false, not_false_eq_true, ↓reduceIte, Nat.reduceEqDiff]
  refine tx_p_into hu hb hT (fun mi2 w => ?_)
  cases hr : tx_read n tp with
  | inl e =>
    rw [hr] at w hQ1
    have h6 : ¬ nI e = -9 := fun z => absurd (z ▸ nI_pos (show e < 2 ^ 31 by have := he e hr; omega)) (by decide)
    simp only [tz_3_0, tz_3_1, tz_3_4, tz_3_5, tz_3_8, tz_3_11, tz_3_14, tz_3_16, tz_3_17, tz_3_20, tz_3_23, tz_3_24, tz_3_25, tz_3_26, tz_3_29, tz_3_29n, tz_3_30, tz_3_31, tz_3_32, tz_3_35, tz_3_38, tz_3_39, tz_3_39n, tz_3_40, tz_3_43, tz_3_44, tz_3_47, tz_3_48, tz_3_51, tz_3_54, tz_3_55, tz_3_58, tz_3_61, tz_69_0, tz_69_1, tz_69_4, tz_69_6, tz_69_9, tz_69_10, tz_69_13, tz_69_16, tz_69_17, tz_69_20, tk_0, tq_0_0, tq_0_1, tq_0_2, tq_0_3, tq_0_4, tq_0_5, tq_0_6, tq_t, tq_s, tk_127, tq_127_0, tq_i, tw_va_s, tw_va_n, tw_K_s, tw_K_n, and_true, true_and, and_false, false_and, true_or, or_true, not_true_eq_false, not_false_eq_true, ↓reduceIte, Nat.reduceEqDiff, tx_fl, w.1, h6, show ¬ (1 : Int32) = 0 by decide]
    refine hQ1 rfl mi2 ?_ (fun a ha h => w.2 a (by omega) h)
    unfold tw_fk
    rw [w.1, if_neg h6]
    rfl
  | inr q =>
    obtain ⟨r, s⟩ := q
    rw [hr] at w hQ1 hQ2
    obtain ⟨h0, h1, h2, h3, h4, h5, h6, h7⟩ := w
    by_cases h9 : s.2.2.2 = -9
    · have ea : tx_acc (.inr (r, s)) = some (s.2.1, s.2.2.1) := by simp only [tx_acc, h9, ↓reduceIte]
      have en : tx_an (.inr (r, s)) = nI s.2.1 := by simp only [tx_an, h9, ↓reduceIte]
      have hq := hQ2 _ _ ea
      rw [en] at hq
      simp only [tz_3_0, tz_3_1, tz_3_4, tz_3_5, tz_3_8, tz_3_11, tz_3_14, tz_3_16, tz_3_17, tz_3_20, tz_3_23, tz_3_24, tz_3_25, tz_3_26, tz_3_29, tz_3_29n, tz_3_30, tz_3_31, tz_3_32, tz_3_35, tz_3_38, tz_3_39, tz_3_39n, tz_3_40, tz_3_43, tz_3_44, tz_3_47, tz_3_48, tz_3_51, tz_3_54, tz_3_55, tz_3_58, tz_3_61, tk_0, tq_0_0, tq_0_1, tq_0_2, tq_0_3, tq_0_4, tq_0_5, tq_0_6, tq_t, tq_s, tw_va_s, tw_va_n, tw_K_s, tw_K_n, and_true, true_and, and_false, false_and, true_or, or_true, not_true_eq_false, not_false_eq_true, ↓reduceIte, Nat.reduceEqDiff, tx_fl, h9, show ¬ (1 : Int32) = 0 by decide, tw_r0_t, tw_r0_s]
      rw [show 379 + d = 377 + d + 2 by omega]
      refine tw_p_startAnew (N := s.2.1) (pg := s.2.2.1) hu ⟨h0, h5, h6⟩ (fun mi3 w1 w2 => ?_)
      have e5 : mi3 u 1 = nI s.2.1 := w1.2.2.1
      have e125 : mi3 125 = mi2 125 := w2 125 (by omega) (by decide)
      have e126 : mi3 126 = mi2 126 := w2 126 (by omega) (by decide)
      have e127 : mi3 127 = mi2 127 := w2 127 (by omega) (by decide)
      have fr : ∀ F : Nat → Int32, ∀ a, a ≠ 125 → tw_st mi3 125 F a = mi3 a := fun F a h => tw_st_n _ _ h
      simp only [tz_3_0, tz_3_1, tz_3_4, tz_3_5, tz_3_8, tz_3_11, tz_3_14, tz_3_16, tz_3_17, tz_3_20, tz_3_23, tz_3_24, tz_3_25, tz_3_26, tz_3_29, tz_3_29n, tz_3_30, tz_3_31, tz_3_32, tz_3_35, tz_3_38, tz_3_39, tz_3_39n, tz_3_40, tz_3_43, tz_3_44, tz_3_47, tz_3_48, tz_3_51, tz_3_54, tz_3_55, tz_3_58, tz_3_61, tz_60_0, tz_60_1, tz_60_2, tz_60_5, tz_37_0, tz_37_1, tz_37_4, tk_0, tq_0_0, tq_0_1, tq_0_2, tq_0_3, tq_0_4, tq_0_5, tq_0_6, tq_t, tq_s, tk_125, tq_125_0, tw_va_s, tw_va_n, tw_K_s, tw_K_n, and_true, true_and, and_false, false_and, true_or, or_true, not_true_eq_false, not_false_eq_true, ↓reduceIte, Nat.reduceEqDiff, tw_tk hu, fr _ u (by omega), e5]
      refine hq _ ?_ ?_ ?_ (fun a ha q1 q2 q3 => ?_)
      · obtain ⟨⟨z1, z2, z3, z4, z5⟩, z6, z7, z8⟩ := w1
        refine ⟨⟨z1, by rw [fr _ 128 (by decide)]; exact z2, by rw [fr _ 128 (by decide)]; exact z3, fun j hj => absurd hj (Nat.not_lt_zero j), fun j hj => absurd hj (Nat.not_lt_zero j)⟩, z6, by rw [fr _ u (by omega)]; exact z7, fun k hk => ?_⟩
        rw [fr _ (u + 2 + k) (by omega)]
        exact z8 k hk
      · exact ⟨Nat.zero_le _, by rw [tw_st_s, tw_st_s]; rfl, fun j hj => absurd hj (Nat.not_lt_zero j)⟩
      · unfold tw_fk
        rw [fr _ 127 (by decide), e127, h3, h4, h9]
        simp only [tx_fl, h9, ↓reduceIte]
      · rw [fr _ a q1, w2 a (by omega) q3]
        exact h7 a (by omega) q2
    · have ea : tx_acc (.inr (r, s)) = none := by simp only [tx_acc, h9, ↓reduceIte]
      have en : tx_an (.inr (r, s)) = -100 - s.2.2.2 := by simp only [tx_an, h9, ↓reduceIte]
      have hq := hQ1 ea mi2 (by unfold tw_fk; rw [h3, h4]; simp only [tx_fl, h9, ↓reduceIte]) (fun a ha h => h7 a (by omega) h)
      rw [en] at hq
      simp only [tz_3_0, tz_3_1, tz_3_4, tz_3_5, tz_3_8, tz_3_11, tz_3_14, tz_3_16, tz_3_17, tz_3_20, tz_3_23, tz_3_24, tz_3_25, tz_3_26, tz_3_29, tz_3_29n, tz_3_30, tz_3_31, tz_3_32, tz_3_35, tz_3_38, tz_3_39, tz_3_39n, tz_3_40, tz_3_43, tz_3_44, tz_3_47, tz_3_48, tz_3_51, tz_3_54, tz_3_55, tz_3_58, tz_3_61, tz_69_0, tz_69_1, tz_69_4, tz_69_6, tz_69_9, tz_69_10, tz_69_13, tz_69_16, tz_69_17, tz_69_20, tk_0, tq_0_0, tq_0_1, tq_0_2, tq_0_3, tq_0_4, tq_0_5, tq_0_6, tq_t, tq_s, tk_127, tq_127_0, tq_i, tw_va_s, tw_va_n, tw_K_s, tw_K_n, and_true, true_and, and_false, false_and, true_or, or_true, not_true_eq_false, not_false_eq_true, ↓reduceIte, Nat.reduceEqDiff, tx_fl, h3, h4, h9, show ¬ (2 : Int32) = 0 by decide]
      exact hq
end tw_ctext
