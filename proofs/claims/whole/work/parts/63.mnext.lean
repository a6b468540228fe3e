/-! tokens: the reference goes on by one -/
def tx_sg (c : Nat) : Bool := c == 59 || c == 58 || c == 44 || c == 47 || c == 38 || c == 42 || c == 33 || c == 43 || c == 45 || c == 126 || c == 40 || c == 41
def tx_so (c : Nat) : Nat := if c = 257 then 0 else if c = 256 then 1 else if c = 258 then 4 else if 97 ≤ c ∧ c ≤ 112 then 2 else if tx_sg c then 3 else 4
/-- a number as the reference counts it -/
def tx_nm (n : Nat) (tp : Nat → Nat) (b : Nat) : Nat → Nat → Nat → Nat
  | 0, _, v => v
  | f + 1, j, v => if tx_isd n tp j then tx_nm n tp b f (j + 1) (if j - b < 3 then 10 * v + (tp j - 48) else v) else v
set_option maxRecDepth 100000 in
theorem tx_nm_nc {n : Nat} {tp : Nat → Nat} (b : Nat) : ∀ f j v, b ≤ j → tx_rl n tp f j - b ≤ 3 → j ≤ n → v < 10 ^ (j - b) → tx_nm n tp b f j v = tx_nc n tp f j v ∧ tx_nc n tp f j v ≤ 999 := by
  intro f
  induction f with
  | zero =>
    intro j v hj hr hn hv
    simp only [tx_rl] at hr
    refine ⟨rfl, ?_⟩
    have : 10 ^ (j - b) ≤ 10 ^ 3 := Nat.pow_le_pow_right (by omega) hr
    simp only [tx_nc]
    omega
  | succ f ih =>
    intro j v hj hr hn hv
    rw [tx_rl] at hr
    rw [tx_nm, tx_nc]
    by_cases c : tx_isd n tp j = true
    · rw [if_pos c] at hr
      rw [if_pos c, if_pos c]
      have c2 : j < n ∧ 48 ≤ tp j ∧ tp j ≤ 57 := of_decide_eq_true c
      have h2 := tx_rl_le (n := n) (tp := tp) f (j + 1) (by omega)
      have h3 : j - b < 3 := by omega
      have h4 : 10 * v + (tp j - 48) < 10 ^ (j + 1 - b) := by
        rw [show j + 1 - b = (j - b) + 1 by omega, Nat.pow_succ]
        omega
      have h5 : 10 ^ (j + 1 - b) ≤ 10 ^ 3 := Nat.pow_le_pow_right (by omega) (by omega)
      rw [if_pos h3, Nat.min_eq_left (by omega)]
      exact ih (j + 1) _ (by omega) hr (by omega) h4
    · rw [if_neg c] at hr
      rw [if_neg c, if_neg c]
      have : 10 ^ (j - b) ≤ 10 ^ 3 := Nat.pow_le_pow_right (by omega) hr
      exact ⟨rfl, by omega⟩
def tx_MP (mi : tw_I) (n : Nat) (tp : Nat → Nat) (p : Nat) : Prop := mi 139 31 = nI (tx_pl n tp p) ∧ mi 139 29 = nI (tx_en n tp p) ∧ mi 139 30 = nI (tx_so (tx_to n tp p)) ∧ (tx_so (tx_to n tp p) = 1 → mi 139 32 = nI (tx_nu n tp p)) ∧ (tx_so (tx_to n tp p) = 2 → mi 139 32 = nI (tx_to n tp p - 97)) ∧ (tx_so (tx_to n tp p) = 3 → mi 139 32 = nI (tx_to n tp p))
section tw_mlex
variable {sc : Nat × (Nat → Int32)} {d t s i n : Nat} {mi : tw_I} {Q : Option Value → tw_G → tw_I → tw_Q → Prop} {tp : Nat → Nat}
set_option maxRecDepth 100000 in
theorem tw_q_skl (hn : n ≤ 60) (hb : ∀ j, j < n → tp j < 256) : ∀ f j (mi : tw_I), n ≤ j + f → j ≤ n → mi 139 2 = nI n → (∀ j, j < n → mi 140 j = nI (tp j)) → mi 139 29 = nI j →
    (∀ mi', (∀ a, a ≠ 139 → mi' a = mi a) → (∀ z, z ≠ 29 → mi' 139 z = mi 139 z) → mi' 139 29 = nI (tx_sk n tp f j) → tw_E sc d 131 38 [some (.ref 139)] [] tw_g0 mi' (tw_r0 t s i) Q) →
    tw_E sc d 131 0 [some (.ref 139)] [] tw_g0 mi (tw_r0 t s i) Q := by
  intro f
  induction f with
  | zero =>
    intro j mi h1 h2 e2 e140 e29 hQ
    rw [tz_131_0]
    simp only [tz_131_1, tz_131_4, tz_131_5, tz_131_8, tk_139, tq_139_1, tq_139_6, tq_139_7, tq_139_8, tq_139_9, tq_139_10, tq_139_12, tq_139_13, tq_139_14, tq_139_15, tq_139_16, tq_139_17, tq_139_18, tq_139_19, tq_139_21, tq_139_22, tq_139_24, tq_139_26, tq_139_27, tq_139_28, tq_139_34, tq_139_35, tq_139_36, tq_139_37, tw_va_s, tw_va_n, tw_K_s, tw_K_n, and_true, true_and, and_false, false_and, true_or, or_true, not_true_eq_false, not_false_eq_true, ↓reduceIte, Nat.reduceEqDiff, e2, e29]
    rw [tw_le_t (by omega) (by omega)]
    exact hQ mi (fun _ _ => rfl) (fun _ _ => rfl) e29
  | succ f ih =>
    intro j mi h1 h2 e2 e140 e29 hQ
    rw [tz_131_0]
    simp only [tz_131_1, tz_131_4, tz_131_5, tz_131_8, tk_139, tq_139_1, tq_139_6, tq_139_7, tq_139_8, tq_139_9, tq_139_10, tq_139_12, tq_139_13, tq_139_14, tq_139_15, tq_139_16, tq_139_17, tq_139_18, tq_139_19, tq_139_21, tq_139_22, tq_139_24, tq_139_26, tq_139_27, tq_139_28, tq_139_34, tq_139_35, tq_139_36, tq_139_37, tw_va_s, tw_va_n, tw_K_s, tw_K_n, and_true, true_and, and_false, false_and, true_or, or_true, not_true_eq_false, not_false_eq_true, ↓reduceIte, Nat.reduceEqDiff, e2, e29]
    rw [tx_sk] at hQ
    by_cases h : j < n
    · have := hb j h
      rw [tw_le_f (by omega) (by omega)]
      simp only [tz_131_11, tz_131_12, tz_131_15, tz_131_16, tz_131_19, tz_131_20, tz_131_22, tk_139, tq_139_1, tq_139_6, tq_139_7, tq_139_8, tq_139_9, tq_139_10, tq_139_12, tq_139_13, tq_139_14, tq_139_15, tq_139_16, tq_139_17, tq_139_18, tq_139_19, tq_139_21, tq_139_22, tq_139_24, tq_139_26, tq_139_27, tq_139_28, tq_139_34, tq_139_35, tq_139_36, tq_139_37, tk_140, tj_140, tw_va_s, tw_va_n, tw_K_s, tw_K_n, and_true, true_and, and_false, false_and, true_or, or_true, not_true_eq_false, not_false_eq_true, ↓reduceIte, Nat.reduceEqDiff, e29, nI_clamp (show j < 2 ^ 31 by omega), vp_in_nI (show j < 60 by omega) (by omega), e140 j h, tl32]
      by_cases c : tp j = 32
      · rw [if_pos ⟨h, c⟩] at hQ
        rw [tw_ne_f c]
        simp only [tz_131_25, tz_131_26, tz_131_27, tz_131_30, tz_131_31, tz_131_32, tz_131_35, tk_139, tq_139_1, tq_139_6, tq_139_7, tq_139_8, tq_139_9, tq_139_10, tq_139_12, tq_139_13, tq_139_14, tq_139_15, tq_139_16, tq_139_17, tq_139_18, tq_139_19, tq_139_21, tq_139_22, tq_139_24, tq_139_26, tq_139_27, tq_139_28, tq_139_34, tq_139_35, tq_139_36, tq_139_37, tw_va_s, tw_va_n, tw_K_s, tw_K_n, and_true, true_and, and_false, false_and, true_or, or_true, not_true_eq_false, not_false_eq_true, ↓reduceIte, Nat.reduceEqDiff, e29, nI_1]
        refine ih (j + 1) _ (by omega) (by omega) ?_ ?_ ?_ ?_
        · rw [tw_st_s, tw_st_n _ _ (by decide)]; exact e2
        · rw [tw_st_n _ _ (by decide)]; exact e140
        · rw [tw_st_s, tw_st_s]
        · exact fun mi' w1 w2 w3 => hQ mi' (fun a ha => by rw [w1 a ha, tw_st_n _ _ ha]) (fun z hz => by rw [w2 z hz, tw_st_s, tw_st_n _ _ hz]) w3
      · rw [if_neg (fun z => c z.2)] at hQ
        rw [tw_ne_t c (by omega) (by omega)]
        exact hQ mi (fun _ _ => rfl) (fun _ _ => rfl) e29
    · rw [if_neg (fun z => h z.1)] at hQ
      rw [tw_le_t (by omega) (by omega)]
      exact hQ mi (fun _ _ => rfl) (fun _ _ => rfl) e29
set_option maxRecDepth 100000 in
theorem tw_q_isDig (hn : n ≤ 60) (e2 : mi 139 2 = nI n) (e140 : ∀ j, j < n → mi 140 j = nI (tp j)) {j : Nat} (hj : j < 2 ^ 31) (hb : ∀ j, j < n → tp j < 256) : tw_E sc (d + 1) 129 0 [some (.ref 139), some (.int (nI j))] [] tw_g0 mi (tw_r0 t s i) Q = Q (some (.int (if tx_isd n tp j then 1 else 0))) tw_g0 mi (tw_r0 t s i) := by
  by_cases h : j < n
  · have c2 : ¬ nI n ≤ nI j := nI_ge h (by omega)
    have := hb j h
    simp only [tz_129_0, tz_129_1, tz_129_2, tz_129_5, tz_129_8, tz_129_9, tz_129_12, tz_129_13, tz_129_14, tz_129_15, tz_129_18, tz_129_21, tz_129_24, tz_129_27, tz_129_28, tz_129_31, tz_129_32, tk_139, tq_139_1, tq_139_6, tq_139_7, tq_139_8, tq_139_9, tq_139_10, tq_139_12, tq_139_13, tq_139_14, tq_139_15, tq_139_16, tq_139_17, tq_139_18, tq_139_19, tq_139_21, tq_139_22, tq_139_24, tq_139_26, tq_139_27, tq_139_28, tq_139_34, tq_139_35, tq_139_36, tq_139_37, tk_140, tj_140, tw_va_s, tw_va_n, tw_K_s, tw_K_n, and_true, true_and, and_false, false_and, true_or, or_true, not_true_eq_false, not_false_eq_true, ↓reduceIte, Nat.reduceEqDiff, e2, c2, nI_clamp hj, vp_in_nI (show j < 60 by omega) (by omega), e140 j h, tw_L48, tw_L57, tw_q_in]
    by_cases c : tx_isd n tp j = true
    · have c3 : j < n ∧ 48 ≤ tp j ∧ tp j ≤ 57 := of_decide_eq_true c
      have c4 : (48 : Int32) ≤ nI (tp j) ∧ nI (tp j) ≤ 57 := ⟨nI_le (a := 48) c3.2.1 (by omega), nI_le (b := 57) c3.2.2 (by omega)⟩
      rw [if_pos c]
      simp only [c4, and_self, ↓reduceIte, show ¬ (1 : Int32) = 0 by decide]
    · have c4 : ¬ ((48 : Int32) ≤ nI (tp j) ∧ nI (tp j) ≤ 57) := fun z => by
        rw [tx_isd_t h] at c
        apply c
        have z1 := z.1
        have z2 := z.2
        rw [tl48, nI_leI (by omega) (by omega)] at z1
        rw [tl57, nI_leI (by omega) (by omega)] at z2
        exact ⟨z1, z2⟩
      rw [if_neg c]
      simp only [c4, ↓reduceIte]
  · have c2 : nI n ≤ nI j := nI_le (by omega) hj
    have c : ¬ tx_isd n tp j = true := by rw [tx_isd_f h]; decide
    rw [if_neg c]
    simp only [tz_129_0, tz_129_1, tz_129_2, tz_129_5, tz_129_8, tz_129_9, tz_129_12, tz_129_13, tz_129_14, tz_129_15, tz_129_18, tz_129_21, tz_129_24, tz_129_27, tz_129_28, tz_129_31, tz_129_32, tk_139, tq_139_1, tq_139_6, tq_139_7, tq_139_8, tq_139_9, tq_139_10, tq_139_12, tq_139_13, tq_139_14, tq_139_15, tq_139_16, tq_139_17, tq_139_18, tq_139_19, tq_139_21, tq_139_22, tq_139_24, tq_139_26, tq_139_27, tq_139_28, tq_139_34, tq_139_35, tq_139_36, tq_139_37, tw_va_s, tw_va_n, tw_K_s, tw_K_n, and_true, true_and, and_false, false_and, true_or, or_true, not_true_eq_false, not_false_eq_true, ↓reduceIte, Nat.reduceEqDiff, e2, c2]
end tw_mlex
