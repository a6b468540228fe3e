/-! sample, arm, fault, holds, waits, node, total: what both answer -/
/-- why m samples can't come; 0: they can -/
def tw_rfu (N : Nat) (S : tw_Hs) (m : Nat) : Int32 := if N = 0 then -3 else if 4000 < S.1 + m then -4 else 0
def tw_sa (N : Nat) (pg : Nat → tw_Nd) (S : tw_Hs) (x n : Int32) : tw_Hs × Int32 :=
  if (0 ≤ x ∧ x ≤ 65535) ∧ (1 ≤ n ∧ n ≤ 1000) then (if tw_rfu N S n.toNatClampNeg = 0 then tw_mn pg N x n.toNatClampNeg S 0 else (S, tw_rfu N S n.toNatClampNeg)) else (S, -2)
set_option maxRecDepth 100000 in
theorem tw_rng {lo hi : Nat} {x : Int32} (hl : lo < 2 ^ 31) (hh : hi + 1 < 2 ^ 31) (h1 : nI lo ≤ x) (h2 : x ≤ nI hi) : ∃ m, lo ≤ m ∧ m ≤ hi ∧ x = nI m := by
  rcases pk_ix x (n := hi + 1) (by omega) with h | h | ⟨j, hj, rfl⟩
  · rw [Int32.le_iff_toInt_le, nI_toInt hl] at h1
    rw [Int32.lt_iff_toInt_lt] at h
    have : (0 : Int32).toInt = 0 := rfl
    omega
  · rw [Int32.le_iff_toInt_le, nI_toInt (show hi < 2 ^ 31 by omega)] at h2
    rw [Int32.le_iff_toInt_le, nI_toInt hh] at h
    omega
  · refine ⟨j, ?_, by omega, rfl⟩
    rw [Int32.le_iff_toInt_le, nI_toInt hl, nI_toInt (by omega)] at h1
    omega
section tw_sample
variable {sc : Nat × (Nat → Int32)} {d t s i N k T : Nat} {mi : tw_I} {Q : Option Value → tw_G → tw_I → tw_Q → Prop} {pg : Nat → tw_Nd} {dy : tw_Dy} {S : tw_Hs}
set_option maxRecDepth 100000 in
theorem tw_p_ref (ht : t = 1 ∨ t = 63) (hC : tw_CS mi t N pg S) {m : Nat} (hm : m < 4001) : tw_E sc (d + 2) 26 0 [some (.ref 0), some (.int (nI m))] [] tw_g0 mi (tw_r0 t s i) Q = Q (some (.int (tw_rfu N S m))) tw_g0 mi (tw_r0 t s i) := by
  obtain ⟨⟨hT, h1, _⟩, hN, h2, _⟩ := hC
  have e4 : (4000 : Int32) - nI S.1 = nI (4000 - S.1) := pk_sub (a := 4000) hT
  unfold tw_rfu
  by_cases h0 : N = 0
  · subst h0
    have c : nI 0 ≤ (0 : Int32) := by decide
    simp only [tz_26_0, tz_26_1, tz_26_4, tz_26_7, tz_26_9, tz_26_10, tz_26_11, tz_26_14, tz_26_15, tz_26_18, tz_26_21, tz_26_22, tz_26_25, tz_26_27, tz_24_0, tz_24_1, tz_24_4, tz_24_7, tz_24_10, tz_24_11, tz_24_14, tz_24_15, tz_37_0, tz_37_1, tz_37_4, tk_0, tq_0_0, tq_0_1, tq_0_2, tq_0_3, tq_0_4, tq_0_5, tq_0_6, tq_t, tq_s, tk_128, tq_128_0, tq_128_1, tw_va_s, tw_va_n, tw_K_s, tw_K_n, and_true, true_and, and_false, false_and, true_or, or_true, not_true_eq_false, not_false_eq_true, ↓reduceIte, Nat.reduceEqDiff, tw_tk ht, h2, c]
  · have c : ¬ nI N ≤ (0 : Int32) := nI_ge (a := 0) (by omega) (by omega)
    simp only [tz_26_0, tz_26_1, tz_26_4, tz_26_7, tz_26_9, tz_26_10, tz_26_11, tz_26_14, tz_26_15, tz_26_18, tz_26_21, tz_26_22, tz_26_25, tz_26_27, tz_24_0, tz_24_1, tz_24_4, tz_24_7, tz_24_10, tz_24_11, tz_24_14, tz_24_15, tz_37_0, tz_37_1, tz_37_4, tz_92_0, tz_92_1, tz_92_4, tz_92_5, tz_92_8, tz_92_9, tz_92_12, tz_92_13, tz_92_16, tz_92_17, tk_0, tq_0_0, tq_0_1, tq_0_2, tq_0_3, tq_0_4, tq_0_5, tq_0_6, tq_t, tq_s, tk_128, tq_128_0, tq_128_1, tw_va_s, tw_va_n, tw_K_s, tw_K_n, and_true, true_and, and_false, false_and, true_or, or_true, not_true_eq_false, not_false_eq_true, ↓reduceIte, Nat.reduceEqDiff, tw_tk ht, h1, h2, c, e4]
    by_cases hr : 4000 < S.1 + m
    · have c2 : ¬ nI m ≤ nI (4000 - S.1) := nI_ge (by omega) (by omega)
      simp [c2, hr, h0]
    · have c2 : nI m ≤ nI (4000 - S.1) := nI_le (by omega) (by omega)
      have c3 : ¬ nI (4000 - S.1) < nI m := Int32.not_lt.mpr c2
      simp [c2, c3, hr, h0]
set_option maxRecDepth 100000 in
theorem tw_p_take (ht : t = 1 ∨ t = 63) (hv : tw_pv N pg) (hN : 1 ≤ N) {x : Int32} (hx : tw_16 x) (n : Nat) (hn : n < 2 ^ 30) (hC : tw_CS mi t N pg S) (hS : tw_Sv S) (hT : S.1 + n ≤ 4000)
    (hQ : ∀ mi', tw_CS mi' t N pg (tw_mn pg N x n S 0).1 → tw_Sv (tw_mn pg N x n S 0).1 → (∀ a, (a < t + 2 ∨ t + 2 + N ≤ a) → a ≠ 128 → a ≠ 129 → a ≠ 130 → mi' a = mi a) → Q (some (.int (tw_mn pg N x n S 0).2)) tw_g0 mi' (tw_r0 t s i)) :
    tw_E sc (d + 5) 28 0 [some (.ref 0), some (.int x), some (.int (nI n)), none, none, none, none] [] tw_g0 mi (tw_r0 t s i) Q := by
  rw [tz_28_0, tz_28_1, tz_28_2, tz_28_3]
  exact tw_p_takel ht hv hN hx n hn none none n 0 0 S mi none none (by omega) hC hS hT hQ
set_option maxRecDepth 100000 in
theorem tw_p_sample (ht : t = 1 ∨ t = 63) (hv : tw_pv N pg) (hC : tw_CS mi t N pg S) (hS : tw_Sv S) (x n : Int32)
    (hQ : ∀ mi', tw_CS mi' t N pg (tw_sa N pg S x n).1 → tw_Sv (tw_sa N pg S x n).1 → (∀ a, (a < t + 2 ∨ t + 2 + N ≤ a) → a ≠ 128 → a ≠ 129 → a ≠ 130 → mi' a = mi a) → Q (some (.int (tw_sa N pg S x n).2)) tw_g0 mi' (tw_r0 t s i)) :
    tw_E sc (d + 6) 7 0 [some (.ref 0), some (.int x), some (.int n), none] [] tw_g0 mi (tw_r0 t s i) Q := by
  by_cases hg : (0 ≤ x ∧ x ≤ 65535) ∧ (1 ≤ n ∧ n ≤ 1000)
  · have e : tw_sa N pg S x n = (if tw_rfu N S n.toNatClampNeg = 0 then tw_mn pg N x n.toNatClampNeg S 0 else (S, tw_rfu N S n.toNatClampNeg)) := if_pos hg
    rw [e] at hQ
    obtain ⟨⟨h1, h2⟩, h3, h4⟩ := hg
    obtain ⟨m, _, m1, rfl⟩ := tw_rng (lo := 0) (hi := 65535) (by omega) (by omega) h1 h2
    obtain ⟨q, q0, q1, rfl⟩ := tw_rng (lo := 1) (hi := 1000) (by omega) (by omega) h3 h4
    have c1 : ¬ nI m < 0 := nI_pos (by omega)
    have c2 : ¬ (65535 : Int32) < nI m := Int32.not_lt.mpr h2
    have c3 : ¬ nI q < 1 := Int32.not_lt.mpr h3
    rw [nI_clamp (by omega)] at hQ
    simp only [tz_7_0, tz_7_1, tz_7_4, tz_7_5, tz_7_7, tz_7_10, tz_7_11, tz_7_12, tz_7_15, tz_7_16, tz_7_19, tz_7_22, tz_7_24, tz_7_25, tz_7_26, tz_7_27, tz_7_30, tz_7_31, tz_7_32, tz_7_35, tz_7_36, tz_7_39, tz_7_40, tz_7_41, tz_7_42, tz_7_45, tk_0, tq_0_0, tq_0_1, tq_0_2, tq_0_3, tq_0_4, tq_0_5, tq_0_6, tq_t, tq_s, tw_va_s, tw_va_n, tw_K_s, tw_K_n, and_true, true_and, and_false, false_and, true_or, or_true, not_true_eq_false, not_false_eq_true, ↓reduceIte, Nat.reduceEqDiff, c1, c2, c3, h4, tw_p_ref ht hC (show q < 4001 by omega)]
    by_cases hr : tw_rfu N S q = 0
    · rw [if_pos hr] at hQ
      simp only [hr, ↓reduceIte]
      have hN : 1 ≤ N := by
        unfold tw_rfu at hr
        by_cases h0 : N = 0
        · rw [if_pos h0] at hr; exact absurd hr (by decide)
        · omega
      have hT : S.1 + q ≤ 4000 := by
        unfold tw_rfu at hr
        rw [if_neg (by omega)] at hr
        by_cases h0 : 4000 < S.1 + q
        · rw [if_pos h0] at hr; exact absurd hr (by decide)
        · omega
      refine tw_p_take ht hv hN ⟨m, by omega, rfl⟩ q (by omega) hC hS hT (fun mi' w1 w2 w3 => ?_)
      simp only [tz_7_0, tz_7_1, tz_7_4, tz_7_5, tz_7_7, tz_7_10, tz_7_11, tz_7_12, tz_7_15, tz_7_16, tz_7_19, tz_7_22, tz_7_24, tz_7_25, tz_7_26, tz_7_27, tz_7_30, tz_7_31, tz_7_32, tz_7_35, tz_7_36, tz_7_39, tz_7_40, tz_7_41, tz_7_42, tz_7_45, tw_va_s, tw_va_n, tw_K_s, tw_K_n, and_true, true_and, and_false, false_and, true_or, or_true, not_true_eq_false, not_false_eq_true, ↓reduceIte, Nat.reduceEqDiff]
      exact hQ mi' w1 w2 w3
    · rw [if_neg hr] at hQ
      simp only [hr, ↓reduceIte]
      exact hQ mi hC hS (fun _ _ _ _ _ => rfl)
  · have e : tw_sa N pg S x n = (S, -2) := if_neg hg
    rw [e] at hQ
    have hq := hQ mi hC hS (fun _ _ _ _ _ => rfl)
    simp only [tz_7_0, tz_7_1, tz_7_4, tz_7_5, tz_7_7, tz_7_10, tz_7_11, tz_7_12, tz_7_15, tz_7_16, tz_7_19, tz_7_22, tz_7_24, tz_7_25, tz_7_26, tz_7_27, tz_7_30, tz_7_31, tz_7_32, tz_7_35, tz_7_36, tz_7_39, tz_7_40, tz_7_41, tz_7_42, tz_7_45, tk_0, tq_0_0, tq_0_1, tq_0_2, tq_0_3, tq_0_4, tq_0_5, tq_0_6, tq_t, tq_s, tw_va_s, tw_va_n, tw_K_s, tw_K_n, and_true, true_and, and_false, false_and, true_or, or_true, not_true_eq_false, not_false_eq_true, ↓reduceIte, Nat.reduceEqDiff]
    by_cases h1 : x < 0
    · rw [if_pos h1]; exact hq
    rw [if_neg h1]
    by_cases h2 : (65535 : Int32) < x
    · rw [if_pos h2]; exact hq
    rw [if_neg h2]
    by_cases h3 : n < 1
    · rw [if_pos h3]; exact hq
    rw [if_neg h3]
    by_cases h4 : n ≤ 1000
    · exact absurd ⟨⟨Int32.not_lt.mp h1, Int32.not_lt.mp h2⟩, Int32.not_lt.mp h3, h4⟩ hg
    rw [if_neg h4]
    exact hq
set_option maxRecDepth 100000 in
theorem tw_MS_th (h : tw_MS mi N pg S) : tw_MS (tw_th mi) N pg S := by
  unfold tw_MS tw_Mh tw_Mn at *
  simp only [tw_th_a mi (show 154 ≠ 139 by decide), tw_th_a mi (show 155 ≠ 139 by decide), tw_th_a mi (show 141 ≠ 139 by decide), tw_th_a mi (show 142 ≠ 139 by decide), tw_th_a mi (show 143 ≠ 139 by decide), tw_th_a mi (show 144 ≠ 139 by decide), tw_th_a mi (show 145 ≠ 139 by decide), tw_th_a mi (show 151 ≠ 139 by decide), tw_th_a mi (show 152 ≠ 139 by decide), tw_th_a mi (show 153 ≠ 139 by decide), tw_th_x mi (show 20 ≠ 0 by decide), tw_th_x mi (show 5 ≠ 0 by decide)]
  exact h
/-- whether a trigger is there, as the reference keeps it -/
def tw_is (mi : tw_I) (N : Nat) : Prop := mi 139 4 = if N = 0 then 0 else 1
set_option maxRecDepth 100000 in
theorem tw_q_sample (hv : tw_pv N pg) (hC : tw_MS mi N pg S) (hI : tw_is mi N) (x n : Int32)
    (hQ : ∀ mi', tw_MS mi' N pg (tw_sa N pg S x n).1 → (∀ a, a ≠ 139 → a ≠ 151 → a ≠ 152 → a ≠ 153 → a ≠ 154 → a ≠ 155 → mi' a = mi a) → (∀ z, z ≠ 0 → z ≠ 20 → mi' 139 z = mi 139 z) → Q (some (.int (tw_sa N pg S x n).2)) tw_g0 mi' (tw_r0 t s i)) :
    tw_E sc (d + 3) 150 0 [some (.ref 139), some (.int x), some (.int n), none, none] [] tw_g0 mi (tw_r0 t s i) Q := by
  have hth := tw_MS_th hC
  have hq0 := hQ (tw_th mi)
  have c20 : mi 139 20 = nI S.1 := hC.1.2.1
  have hS4 : S.1 ≤ 4000 := hC.1.1
  unfold tw_is at hI
  rw [tz_150_0, tz_150_1, tz_150_2]
  refine ⟨tk_139, ?_⟩
  rw [show tw_st mi 139 (tw_st (mi 139) 0 0) = tw_th mi from rfl]
  have e4 : tw_th mi 139 4 = mi 139 4 := tw_th_x mi (by decide)
  have e20 : tw_th mi 139 20 = mi 139 20 := tw_th_x mi (by decide)
  simp only [tz_150_0, tz_150_1, tz_150_2, tz_150_5, tz_150_6, tz_150_7, tz_150_8, tz_150_11, tz_150_14, tz_150_17, tz_150_18, tz_150_19, tz_150_20, tz_150_23, tz_150_26, tz_150_29, tz_150_31, tz_150_32, tz_150_33, tz_150_36, tz_150_39, tz_150_41, tz_150_42, tz_150_43, tz_150_46, tz_150_47, tz_150_48, tz_150_51, tz_150_54, tz_150_56, tz_150_57, tz_150_58, tz_150_59, tz_150_60, tz_150_64, tz_150_65, tz_150_68, tz_150_69, tz_150_70, tz_150_71, tz_150_74, tz_150_75, tz_150_76, tz_150_79, tz_150_82, tz_150_83, tk_139, tq_139_1, tq_139_6, tq_139_7, tq_139_8, tq_139_9, tq_139_10, tq_139_12, tq_139_13, tq_139_14, tq_139_15, tq_139_16, tq_139_17, tq_139_18, tq_139_19, tq_139_21, tq_139_22, tq_139_24, tq_139_26, tq_139_27, tq_139_28, tq_139_34, tq_139_35, tq_139_36, tq_139_37, tw_va_s, tw_va_n, tw_K_s, tw_K_n, and_true, true_and, and_false, false_and, true_or, or_true, not_true_eq_false, not_false_eq_true, ↓reduceIte, Nat.reduceEqDiff, tw_L0, tw_L1, tw_L1000, tw_L65535, tw_q_in, tw_b0, e4, e20, c20, hI]
  by_cases h1 : 0 ≤ x ∧ x ≤ 65535
  · simp only [h1, and_self, not_true_eq_false, ↓reduceIte]
    by_cases h2 : 1 ≤ n ∧ n ≤ 1000
    · have e : tw_sa N pg S x n = (if tw_rfu N S n.toNatClampNeg = 0 then tw_mn pg N x n.toNatClampNeg S 0 else (S, tw_rfu N S n.toNatClampNeg)) := if_pos ⟨h1, h2⟩
      rw [e] at hQ hq0
      obtain ⟨q, k0, k1, rfl⟩ := tw_rng (lo := 1) (hi := 1000) (by omega) (by omega) h2.1 h2.2
      rw [nI_clamp (by omega)] at hQ hq0
      simp only [h2, and_self, not_true_eq_false, ↓reduceIte]
      by_cases h0 : N = 0
      · have e0 : tw_rfu N S q = -3 := if_pos h0
        rw [e0, if_neg (by decide)] at hq0
        simp only [h0, ↓reduceIte]
        exact hq0 hth (fun a b1 _ _ _ _ _ => tw_th_a mi b1) (fun z b0 _ => tw_th_x mi b0)
      · simp only [h0, ↓reduceIte, show ¬ (1 : Int32) = 0 by decide, nI_add, not_false_eq_true]
        by_cases h3 : S.1 + q ≤ 4000
        · have e0 : tw_rfu N S q = 0 := by unfold tw_rfu; rw [if_neg h0, if_neg (by omega)]
          rw [e0, if_pos rfl] at hQ
          have c4 : nI (S.1 + q) ≤ 4000 := nI_le (b := 4000) h3 (by omega)
          rw [if_pos c4]
          exact tw_q_saml hv (by omega) q (by omega) q 0 0 S _ (by omega) hth h3 (fun mi' w1 w2 w3 => hQ mi' w1 (fun a b1 b2 b3 b4 b5 b6 => by rw [w2 a b1 b2 b3 b4 b5 b6, tw_th_a mi b1]) (fun z b0 b1 => by rw [w3 z b1, tw_th_x mi b0]))
        · have e0 : tw_rfu N S q = -4 := by unfold tw_rfu; rw [if_neg h0, if_pos (by omega)]
          rw [e0, if_neg (by decide)] at hq0
          have c4 : ¬ nI (S.1 + q) ≤ 4000 := nI_ge (a := 4000) (by omega) (by omega)
          rw [if_neg c4]
          exact hq0 hth (fun a b1 _ _ _ _ _ => tw_th_a mi b1) (fun z b0 _ => tw_th_x mi b0)
    · have e : tw_sa N pg S x n = (S, -2) := if_neg (fun c => h2 c.2)
      rw [e] at hq0
      simp only [h2, not_false_eq_true, ↓reduceIte]
      exact hq0 hth (fun a b1 _ _ _ _ _ => tw_th_a mi b1) (fun z b0 _ => tw_th_x mi b0)
  · have e : tw_sa N pg S x n = (S, -2) := if_neg (fun c => h1 c.1)
    rw [e] at hq0
    simp only [h1, not_false_eq_true, ↓reduceIte]
    exact hq0 hth (fun a b1 _ _ _ _ _ => tw_th_a mi b1) (fun z b0 _ => tw_th_x mi b0)
end tw_sample
