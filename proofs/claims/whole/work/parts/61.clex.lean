/-! tokens: the class reads them -/
def tx_CP (mi : tw_I) (n : Nat) (tp : Nat → Nat) (p : Nat) : Prop := mi 127 4 = nI (tx_pl n tp p) ∧ mi 127 2 = nI (tx_to n tp p) ∧ mi 127 5 = nI (tx_en n tp p) ∧ (tx_to n tp p = 256 → mi 127 3 = nI (tx_nu n tp p))
section tw_lex
variable {sc : Nat × (Nat → Int32)} {d t s i n : Nat} {mi : tw_I} {Q : Option Value → tw_G → tw_I → tw_Q → Prop} {tp : Nat → Nat}
set_option maxRecDepth 100000 in
theorem tw_p_sign (hC : tw_CT mi n tp) {j : Nat} (hj : j < 2 ^ 31) : tw_E sc d 62 0 [some (.ref 125), some (.int (nI j))] [] tw_g0 mi (tw_r0 t s i) Q = Q (some (.int (nI (if j < n then tp j else 257)))) tw_g0 mi (tw_r0 t s i) := by
  obtain ⟨hn, h1, h2⟩ := hC
  have c1 : ¬ nI j < 0 := nI_pos hj
  by_cases h : j < n
  · have c2 : ¬ nI n ≤ nI j := nI_ge h (by omega)
    simp only [tz_62_0, tz_62_1, tz_62_4, tz_62_5, tz_62_6, tz_62_9, tz_62_12, tz_62_13, tz_62_16, tz_62_17, tz_62_18, tz_62_21, tz_62_24, tk_125, tq_125_0, tk_126, tj_126, tw_va_s, tw_va_n, tw_K_s, tw_K_n, and_true, true_and, and_false, false_and, true_or, or_true, not_true_eq_false, not_false_eq_true, ↓reduceIte, Nat.reduceEqDiff, h1, c1, c2, h, nI_clamp hj, vp_in_nI (show j < 60 by omega) (by omega), h2 j h]
  · have c2 : nI n ≤ nI j := nI_le (by omega) hj
    simp only [tz_62_0, tz_62_1, tz_62_4, tz_62_5, tz_62_6, tz_62_9, tz_62_12, tz_62_13, tz_62_16, tz_62_17, tz_62_18, tz_62_21, tz_62_24, tk_125, tq_125_0, tw_va_s, tw_va_n, tw_K_s, tw_K_n, and_true, true_and, and_false, false_and, true_or, or_true, not_true_eq_false, not_false_eq_true, ↓reduceIte, Nat.reduceEqDiff, h1, c1, c2, h]
    rfl
set_option maxRecDepth 100000 in
theorem tw_p_skl (hC : tw_CT mi n tp) (hb : ∀ j, j < n → tp j < 256) (x1 : Option Value) : ∀ f j, n ≤ j + f → j ≤ n → tw_E sc (d + 1) 63 2 [some (.ref 125), x1, some (.int (nI j))] [] tw_g0 mi (tw_r0 t s i) Q = Q (some (.int (nI (tx_sk n tp f j)))) tw_g0 mi (tw_r0 t s i) := by
  have hn := hC.1
  intro f
  induction f with
  | zero =>
    intro j h1 h2
    rw [tz_63_2]
    simp only [tz_63_0, tz_63_1, tz_63_3, tz_63_4, tz_63_7, tz_63_10, tz_63_11, tz_63_12, tz_63_15, tz_63_17, tz_63_20, tz_63_23, tz_63_26, tz_63_27, tk_125, tq_125_0, tw_va_s, tw_va_n, tw_K_s, tw_K_n, and_true, true_and, and_false, false_and, true_or, or_true, not_true_eq_false, not_false_eq_true, ↓reduceIte, Nat.reduceEqDiff, hC.2.1, tx_sk]
    rw [tw_le_t (by omega) (by omega)]
  | succ f ih =>
    intro j h1 h2
    rw [tz_63_2]
    simp only [tz_63_0, tz_63_1, tz_63_3, tz_63_4, tz_63_7, tz_63_10, tz_63_11, tz_63_12, tz_63_15, tz_63_17, tz_63_20, tz_63_23, tz_63_26, tz_63_27, tk_125, tq_125_0, tw_va_s, tw_va_n, tw_K_s, tw_K_n, and_true, true_and, and_false, false_and, true_or, or_true, not_true_eq_false, not_false_eq_true, ↓reduceIte, Nat.reduceEqDiff, hC.2.1]
    rw [tx_sk]
    by_cases h : j < n
    · rw [tw_le_f (by omega) (by omega), tw_p_sign hC (by omega), if_pos h]
      simp only [tz_63_0, tz_63_1, tz_63_3, tz_63_4, tz_63_7, tz_63_10, tz_63_11, tz_63_12, tz_63_15, tz_63_17, tz_63_20, tz_63_23, tz_63_26, tz_63_27, tw_va_s, tw_va_n, tw_K_s, tw_K_n, and_true, true_and, and_false, false_and, true_or, or_true, not_true_eq_false, not_false_eq_true, ↓reduceIte, Nat.reduceEqDiff, tl32, nI_1]
      have := hb j h
      by_cases c : tp j = 32
      · rw [tw_ne_f c, if_pos ⟨h, c⟩]
        exact ih (j + 1) (by omega) (by omega)
      · rw [tw_ne_t c (by omega) (by omega), if_neg (fun z => c z.2)]
    · rw [tw_le_t (by omega) (by omega), if_neg (fun z => h z.1)]
set_option maxRecDepth 100000 in
theorem tw_p_sk (hC : tw_CT mi n tp) (hb : ∀ j, j < n → tp j < 256) {p : Nat} (hp : p ≤ n) : tw_E sc (d + 1) 63 0 [some (.ref 125), some (.int (nI p)), none] [] tw_g0 mi (tw_r0 t s i) Q = Q (some (.int (nI (tx_pl n tp p)))) tw_g0 mi (tw_r0 t s i) := by
  rw [tz_63_0, tz_63_1]
  exact tw_p_skl hC hb _ 60 p (by have := hC.1; omega) hp
set_option maxRecDepth 100000 in
theorem tw_p_isDig {c : Nat} (hc : c < 2 ^ 31) : tw_E sc d 86 0 [some (.int (nI c))] [] tw_g0 mi (tw_r0 t s i) Q = Q (some (.int (if 48 ≤ c ∧ c ≤ 57 then 1 else 0))) tw_g0 mi (tw_r0 t s i) := by
  simp only [tz_86_0, tz_86_1, tz_86_3, tz_86_6, tz_86_7, tz_86_9, tz_86_12, tz_86_13, tz_86_16, tz_86_17, tw_va_s, tw_va_n, tw_K_s, tw_K_n, and_true, true_and, and_false, false_and, true_or, or_true, not_true_eq_false, not_false_eq_true, ↓reduceIte, Nat.reduceEqDiff, tl48, tl57]
  by_cases h1 : c < 48
  · rw [tw_lt_t h1 (by omega), if_neg (by omega)]
  · rw [tw_lt_f (by omega) (by omega)]
    by_cases h2 : 57 < c
    · rw [tw_lt_t h2 (by omega), if_neg (by omega)]
    · rw [tw_lt_f (by omega) (by omega), if_pos (by omega)]
set_option maxRecDepth 100000 in
theorem tx_isd_t {j : Nat} (h : j < n) : (tx_isd n tp j = true) = (48 ≤ tp j ∧ tp j ≤ 57) := by
  unfold tx_isd
  simp [h]
set_option maxRecDepth 100000 in
theorem tx_isd_f {j : Nat} (h : ¬ j < n) : tx_isd n tp j = false := by
  unfold tx_isd
  simp [h]
set_option maxRecDepth 100000 in
theorem tx_to_star (hb : ∀ j, j < n → tp j < 256) (p : Nat) : (if tx_pl n tp p < n then tp (tx_pl n tp p) else 257) = 42 ↔ tx_to n tp p = 42 := by
  unfold tx_to
  by_cases h : tx_pl n tp p < n
  · rw [if_pos h, if_pos h]
    by_cases h2 : tx_isd n tp (tx_pl n tp p) = true
    · rw [if_pos h2]
      rw [tx_isd_t h] at h2
      constructor
      · intro e; omega
      · intro e
        split at e <;> omega
    · rw [if_neg h2]
  · rw [if_neg h, if_neg h]
end tw_lex
