/-! arm, fault, holds, waits -/
def tw_zd : tw_Dy := fun _ => (0, 0, -9)
def tw_S0 : tw_Hs := (0, fun _ => 0, fun _ => 0, tw_zd)
def tw_arm0 (N : Nat) (S : tw_Hs) : tw_Hs × Int32 := if N = 0 then (S, -3) else (tw_S0, nI S.1)
/-- what the text made of the nodes: the class's, the reference's -/
def tw_Ct (mi : tw_I) (t N : Nat) (pg : Nat → tw_Nd) : Prop := N ≤ 60 ∧ mi t 1 = nI N ∧ ∀ k, k < N → mi (t + 2 + k) 0 = nI (pg k).1 ∧ mi (t + 2 + k) 1 = (pg k).2.1 ∧ mi (t + 2 + k) 2 = (pg k).2.2.1 ∧ mi (t + 2 + k) 3 = (pg k).2.2.2.1 ∧ mi (t + 2 + k) 4 = (pg k).2.2.2.2
def tw_Mt2 (mi : tw_I) (N : Nat) (pg : Nat → tw_Nd) : Prop := N ≤ 60 ∧ mi 139 5 = nI N ∧ ∀ k, k < N → mi 141 k = nI (pg k).1 ∧ mi 142 k = (pg k).2.1 ∧ mi 143 k = (pg k).2.2.1 ∧ mi 144 k = (pg k).2.2.2.1 ∧ mi 145 k = (pg k).2.2.2.2
def tw_fk (mi : tw_I) : Int32 := if mi 127 6 = -9 then (if mi 127 7 = -9 then 0 else 2) else 1
set_option maxRecDepth 100000 in
theorem tw_Sv0 : tw_Sv tw_S0 := ⟨by show 0 ≤ 4000; omega, fun j hj => absurd hj (Nat.not_lt_zero j), fun j hj => absurd hj (Nat.not_lt_zero j)⟩
section tw_arm
variable {sc : Nat × (Nat → Int32)} {d t s i N k T : Nat} {mi : tw_I} {Q : Option Value → tw_G → tw_I → tw_Q → Prop} {pg : Nat → tw_Nd} {dy : tw_Dy} {S : tw_Hs}
set_option maxRecDepth 100000 in
theorem tw_Cn_t {dy : tw_Dy} (h : tw_Cn mi t N pg dy) : tw_Ct mi t N pg := ⟨h.1, h.2.1, fun k hk => by
  obtain ⟨n0, n1, n2, n3, n4, _⟩ := h.2.2 k hk
  exact ⟨n0, n1, n2, n3, n4⟩⟩
set_option maxRecDepth 100000 in
theorem tw_Mn_t {dy : tw_Dy} (h : tw_Mn mi N pg dy) : tw_Mt2 mi N pg := ⟨h.1, h.2.1, fun k hk => by
  obtain ⟨n0, n1, n2, n3, n4, _⟩ := h.2.2 k hk
  exact ⟨n0, n1, n2, n3, n4⟩⟩
set_option maxRecDepth 100000 in
theorem tw_p_restl (ht : t = 1 ∨ t = 63) (t' : Nat) : ∀ f k (mi : tw_I), N = k + f → tw_Ct mi t N pg → (∀ j, j < k → mi (t + 2 + j) 5 = 0 ∧ mi (t + 2 + j) 6 = 0 ∧ mi (t + 2 + j) 7 = -9) →
    (∀ mi', tw_Cn mi' t N pg tw_zd → (∀ a, a < t + 2 ∨ t + 2 + N ≤ a → mi' a = mi a) → Q none tw_g0 mi' (tw_r0 t' s i)) →
    tw_E sc (d + 1) 40 2 [some (.ref t), some (.int (nI k))] [] tw_g0 mi (tw_r0 t' s i) Q := by
  intro f
  induction f with
  | zero =>
    intro k mi hk hC hj hQ
    obtain rfl : k = N := by omega
    have h60 := hC.1
    rw [tz_40_2]
    simp only [tz_40_0, tz_40_1, tz_40_3, tz_40_4, tz_40_7, tz_40_10, tz_40_11, tz_40_14, tz_40_15, tz_40_16, tz_40_19, tz_40_22, tz_40_25, tw_va_s, tw_va_n, tw_K_s, tw_K_n, and_true, true_and, and_false, false_and, true_or, or_true, not_true_eq_false, not_false_eq_true, ↓reduceIte, Nat.reduceEqDiff, tw_tk ht, hC.2.1]
    rw [tw_le_t (by omega) (by omega)]
    refine hQ mi ⟨h60, hC.2.1, fun j h => ?_⟩ (fun _ _ => rfl)
    obtain ⟨n0, n1, n2, n3, n4⟩ := hC.2.2 j h
    obtain ⟨a, b, c⟩ := hj j h
    exact ⟨n0, n1, n2, n3, n4, a, b, c, Or.inl rfl⟩
  | succ f ih =>
    intro k mi hk hC hj hQ
    have hkN : k < N := by omega
    have h60 := hC.1
    rw [tz_40_2]
    simp only [tz_40_0, tz_40_1, tz_40_3, tz_40_4, tz_40_7, tz_40_10, tz_40_11, tz_40_14, tz_40_15, tz_40_16, tz_40_19, tz_40_22, tz_40_25, tz_46_0, tz_46_1, tz_46_2, tz_46_5, tz_46_6, tz_46_7, tz_46_10, tz_46_11, tz_46_13, tz_46_16, tw_va_s, tw_va_n, tw_K_s, tw_K_n, and_true, true_and, and_false, false_and, true_or, or_true, not_true_eq_false, not_false_eq_true, ↓reduceIte, Nat.reduceEqDiff, tw_tk ht, hC.2.1, tw_tq ht, tw_tk1 ht, tw_tj1 ht, nI_clamp (show k < 2 ^ 31 by omega), tw_tq1 ht t' s i (show k < 60 by omega), vp_in_nI (show k < 60 by omega) (by omega), tw_tk2 ht (show k < 60 by omega), tw_st_s, tw_st_st, true_or]
    rw [tw_le_f (by omega) (by omega)]
    simp only [tw_va_s, tw_va_n, tw_K_s, tw_K_n, and_true, true_and, and_false, false_and, true_or, or_true, not_true_eq_false, not_false_eq_true, ↓reduceIte, Nat.reduceEqDiff, nI_1]
    have fr : ∀ F : Nat → Int32, ∀ a, a ≠ t + 2 + k → tw_st mi (t + 2 + k) F a = mi a := fun F a ha => tw_st_n _ _ ha
    refine ih (k + 1) _ (by omega) ⟨h60, by rw [fr _ t (by omega)]; exact hC.2.1, fun j hj2 => ?_⟩ (fun j hj2 => ?_) (fun mi2 r1 r2 => hQ mi2 r1 (fun a ha => by rw [r2 a ha, fr _ a (by omega)]))
    · by_cases hjk : j = k
      · subst hjk
        rw [tw_st_s]
        simpa [tw_st_ap] using hC.2.2 j hj2
      · rw [fr _ (t + 2 + j) (by omega)]
        exact hC.2.2 j hj2
    · by_cases hjk : j = k
      · subst hjk
        rw [tw_st_s]
        simp [tw_st_ap]
      · rw [fr _ (t + 2 + j) (by omega)]
        exact hj j (by omega)
set_option maxRecDepth 100000 in
theorem tw_p_startAnew (ht : t = 1 ∨ t = 63) (hC : tw_Ct mi t N pg)
    (hQ : ∀ mi', tw_CS mi' t N pg tw_S0 → (∀ a, (a < t + 2 ∨ t + 2 + N ≤ a) → a ≠ 128 → mi' a = mi a) → Q none tw_g0 mi' (tw_r0 t s i)) :
    tw_E sc (d + 2) 25 0 [some (.ref 0)] [] tw_g0 mi (tw_r0 t s i) Q := by
  have h60 := hC.1
  simp only [tz_25_0, tz_25_1, tz_25_4, tz_25_7, tz_25_8, tz_25_11, tz_25_14, tz_89_0, tz_89_1, tz_89_2, tz_89_5, tz_89_6, tz_89_7, tz_89_10, tk_0, tq_0_0, tq_0_1, tq_0_2, tq_0_3, tq_0_4, tq_0_5, tq_0_6, tq_t, tq_s, tk_128, tq_128_0, tq_128_1, tw_va_s, tw_va_n, tw_K_s, tw_K_n, and_true, true_and, and_false, false_and, true_or, or_true, not_true_eq_false, not_false_eq_true, ↓reduceIte, Nat.reduceEqDiff, tw_tk ht, tw_st_s, tw_st_st, tz_40_0, tz_40_1, show (0 : Int32) = nI 0 from rfl]
  refine tw_p_restl (N := N) (pg := pg) ht t N 0 _ (by omega) ?_ (fun j hj => absurd hj (Nat.not_lt_zero j)) (fun mi' w1 w2 => ?_)
  · obtain ⟨h1, h2, h3⟩ := hC
    refine ⟨h1, by rw [tw_st_n _ _ (by omega)]; exact h2, fun k hk => ?_⟩
    rw [tw_st_n _ _ (by omega)]
    exact h3 k hk
  · simp only [tz_25_0, tz_25_1, tz_25_4, tz_25_7, tz_25_8, tz_25_11, tz_25_14, tw_va_s, tw_va_n, tw_K_s, tw_K_n, and_true, true_and, and_false, false_and, true_or, or_true, not_true_eq_false, not_false_eq_true, ↓reduceIte, Nat.reduceEqDiff]
    refine hQ mi' ⟨⟨by show 0 ≤ 4000; omega, ?_, ?_, fun j hj => absurd hj (Nat.not_lt_zero j), fun j hj => absurd hj (Nat.not_lt_zero j)⟩, w1⟩ (fun a h1 h2 => by rw [w2 a h1, tw_st_n _ _ h2])
    · rw [w2 128 (by omega), tw_st_s, tw_st_n _ _ (by decide), tw_st_s]; rfl
    · rw [w2 128 (by omega), tw_st_s, tw_st_s]; rfl
set_option maxRecDepth 100000 in
theorem tw_p_arm (ht : t = 1 ∨ t = 63) (hC : tw_CS mi t N pg S) (hS : tw_Sv S)
    (hQ : ∀ mi', tw_CS mi' t N pg (tw_arm0 N S).1 → tw_Sv (tw_arm0 N S).1 → (∀ a, (a < t + 2 ∨ t + 2 + N ≤ a) → a ≠ 128 → mi' a = mi a) → Q (some (.int (tw_arm0 N S).2)) tw_g0 mi' (tw_r0 t s i)) :
    tw_E sc (d + 3) 6 0 [some (.ref 0), none] [] tw_g0 mi (tw_r0 t s i) Q := by
  have h60 := hC.2.1
  have h2 := hC.2.2.1
  by_cases h0 : N = 0
  · have e : tw_arm0 N S = (S, -3) := if_pos h0
    rw [e] at hQ
    have c : nI N ≤ (0 : Int32) := by rw [h0]; decide
    simp only [tz_6_0, tz_6_1, tz_6_4, tz_6_7, tz_6_9, tz_6_10, tz_6_11, tz_6_14, tz_6_17, tz_6_18, tz_6_19, tz_6_22, tz_6_23, tz_24_0, tz_24_1, tz_24_4, tz_24_7, tz_24_10, tz_24_11, tz_24_14, tz_24_15, tz_37_0, tz_37_1, tz_37_4, tk_0, tq_0_0, tq_0_1, tq_0_2, tq_0_3, tq_0_4, tq_0_5, tq_0_6, tq_t, tq_s, tk_128, tq_128_0, tq_128_1, tw_va_s, tw_va_n, tw_K_s, tw_K_n, and_true, true_and, and_false, false_and, true_or, or_true, not_true_eq_false, not_false_eq_true, ↓reduceIte, Nat.reduceEqDiff, tw_tk ht, h2, c]
    exact hQ mi hC hS (fun _ _ _ => rfl)
  · have e : tw_arm0 N S = (tw_S0, nI S.1) := if_neg h0
    rw [e] at hQ
    have c : ¬ nI N ≤ (0 : Int32) := nI_ge (a := 0) (by omega) (by omega)
    simp only [tz_6_0, tz_6_1, tz_6_4, tz_6_7, tz_6_9, tz_6_10, tz_6_11, tz_6_14, tz_6_17, tz_6_18, tz_6_19, tz_6_22, tz_6_23, tz_24_0, tz_24_1, tz_24_4, tz_24_7, tz_24_10, tz_24_11, tz_24_14, tz_24_15, tz_37_0, tz_37_1, tz_37_4, tz_90_0, tz_90_1, tz_90_4, tk_0, tq_0_0, tq_0_1, tq_0_2, tq_0_3, tq_0_4, tq_0_5, tq_0_6, tq_t, tq_s, tk_128, tq_128_0, tq_128_1, tw_va_s, tw_va_n, tw_K_s, tw_K_n, and_true, true_and, and_false, false_and, true_or, or_true, not_true_eq_false, not_false_eq_true, ↓reduceIte, Nat.reduceEqDiff, tw_tk ht, h2, c, show ¬ (1 : Int32) = 0 by decide, hC.1.2.1]
    refine tw_p_startAnew ht (tw_Cn_t hC.2) (fun mi' w1 w2 => ?_)
    simp only [tz_6_0, tz_6_1, tz_6_4, tz_6_7, tz_6_9, tz_6_10, tz_6_11, tz_6_14, tz_6_17, tz_6_18, tz_6_19, tz_6_22, tz_6_23, tw_va_s, tw_va_n, tw_K_s, tw_K_n, and_true, true_and, and_false, false_and, true_or, or_true, not_true_eq_false, not_false_eq_true, ↓reduceIte, Nat.reduceEqDiff]
    exact hQ mi' w1 tw_Sv0 w2
set_option maxRecDepth 100000 in
theorem tw_p_fault : tw_E sc (d + 1) 4 0 [some (.ref 0)] [] tw_g0 mi (tw_r0 t s i) Q = Q (some (.int (tw_fk mi))) tw_g0 mi (tw_r0 t s i) := by
  unfold tw_fk
  by_cases h1 : mi 127 6 = -9
  · by_cases h2 : mi 127 7 = -9 <;> simp only [tz_4_0, tz_4_1, tz_4_4, tz_4_7, tz_68_0, tz_68_1, tz_68_4, tz_68_6, tz_68_9, tz_68_10, tz_68_11, tz_68_12, tz_68_15, tz_68_17, tz_68_20, tz_68_21, tz_68_24, tz_68_25, tk_0, tq_0_0, tq_0_1, tq_0_2, tq_0_3, tq_0_4, tq_0_5, tq_0_6, tq_t, tq_s, tk_127, tq_127_0, tq_i, tw_va_s, tw_va_n, tw_K_s, tw_K_n, and_true, true_and, and_false, false_and, true_or, or_true, not_true_eq_false, not_false_eq_true, ↓reduceIte, Nat.reduceEqDiff, h1, h2]
  · simp only [tz_4_0, tz_4_1, tz_4_4, tz_4_7, tz_68_0, tz_68_1, tz_68_4, tz_68_6, tz_68_9, tz_68_10, tz_68_11, tz_68_12, tz_68_15, tz_68_17, tz_68_20, tz_68_21, tz_68_24, tz_68_25, tk_0, tq_0_0, tq_0_1, tq_0_2, tq_0_3, tq_0_4, tq_0_5, tq_0_6, tq_t, tq_s, tk_127, tq_127_0, tq_i, tw_va_s, tw_va_n, tw_K_s, tw_K_n, and_true, true_and, and_false, false_and, true_or, or_true, not_true_eq_false, not_false_eq_true, ↓reduceIte, Nat.reduceEqDiff, h1]
set_option maxRecDepth 100000 in
theorem tw_q_fault : tw_E sc d 143 0 [some (.ref 139)] [] tw_g0 mi (tw_r0 t s i) Q = Q (some (.int (mi 139 3))) tw_g0 (tw_th mi) (tw_r0 t s i) := by
  simp only [tz_143_0, tz_143_1, tz_143_2, tz_143_5, tz_143_6, tz_143_9, tk_139, tq_139_1, tq_139_6, tq_139_7, tq_139_8, tq_139_9, tq_139_10, tq_139_12, tq_139_13, tq_139_14, tq_139_15, tq_139_16, tq_139_17, tq_139_18, tq_139_19, tq_139_21, tq_139_22, tq_139_24, tq_139_26, tq_139_27, tq_139_28, tq_139_34, tq_139_35, tq_139_36, tq_139_37, tw_va_s, tw_va_n, tw_K_s, tw_K_n, and_true, true_and, and_false, false_and, true_or, or_true, not_true_eq_false, not_false_eq_true, ↓reduceIte, Nat.reduceEqDiff, tw_th, tw_st_ap]
set_option maxRecDepth 100000 in
theorem tw_p_holds (ht : t = 1 ∨ t = 63) (hC : tw_Cn mi t N pg dy) (x : Int32) : tw_E sc (d + 1) 8 0 [some (.ref 0), some (.int x), none] [] tw_g0 mi (tw_r0 t s i) Q = Q (some (.int (tw_get N x (fun j => if (dy j).1 = 0 then 0 else 1) (-1)))) tw_g0 mi (tw_r0 t s i) := by
  obtain ⟨hN, h1, hn⟩ := hC
  rcases tw_ixc x (T := N) (by omega) with ⟨c1, c2⟩ | ⟨c1, c2, c3, c4⟩ | ⟨j, hj, rfl, c1, c2, c3, c4, c5⟩
  · simp only [tz_8_0, tz_8_1, tz_8_4, tz_8_5, tz_8_8, tz_8_8n, tz_8_9, tz_8_9n, tz_8_10, tz_8_10n, tz_8_13, tz_8_14, tz_8_15, tz_8_15n, tz_8_16, tz_8_19, tz_8_22, tz_8_23, tz_8_26, tz_8_27, tz_39_0, tz_39_1, tz_39_4, tz_39_5, tz_39_6, tz_39_9, tz_39_12, tz_39_13, tz_39_16, tz_39_17, tz_39_18, tz_39_21, tz_39_22, tz_39_22n, tk_0, tq_0_0, tq_0_1, tq_0_2, tq_0_3, tq_0_4, tq_0_5, tq_0_6, tq_t, tq_s, tw_va_s, tw_va_n, tw_K_s, tw_K_n, and_true, true_and, and_false, false_and, true_or, or_true, not_true_eq_false, not_false_eq_true, ↓reduceIte, Nat.reduceEqDiff, tw_tk ht, h1, tw_get, c1, c2]
  · simp only [tz_8_0, tz_8_1, tz_8_4, tz_8_5, tz_8_8, tz_8_8n, tz_8_9, tz_8_9n, tz_8_10, tz_8_10n, tz_8_13, tz_8_14, tz_8_15, tz_8_15n, tz_8_16, tz_8_19, tz_8_22, tz_8_23, tz_8_26, tz_8_27, tz_39_0, tz_39_1, tz_39_4, tz_39_5, tz_39_6, tz_39_9, tz_39_12, tz_39_13, tz_39_16, tz_39_17, tz_39_18, tz_39_21, tz_39_22, tz_39_22n, tk_0, tq_0_0, tq_0_1, tq_0_2, tq_0_3, tq_0_4, tq_0_5, tq_0_6, tq_t, tq_s, tw_va_s, tw_va_n, tw_K_s, tw_K_n, and_true, true_and, and_false, false_and, true_or, or_true, not_true_eq_false, not_false_eq_true, ↓reduceIte, Nat.reduceEqDiff, tw_tk ht, h1, tw_get, c1, c2, c4]
  · obtain ⟨n0, n1, n2, n3, n4, n5, n6, n7, n01⟩ := hn j hj
    simp only [tz_8_0, tz_8_1, tz_8_4, tz_8_5, tz_8_8, tz_8_8n, tz_8_9, tz_8_9n, tz_8_10, tz_8_10n, tz_8_13, tz_8_14, tz_8_15, tz_8_15n, tz_8_16, tz_8_19, tz_8_22, tz_8_23, tz_8_26, tz_8_27, tz_39_0, tz_39_1, tz_39_4, tz_39_5, tz_39_6, tz_39_9, tz_39_12, tz_39_13, tz_39_16, tz_39_17, tz_39_18, tz_39_21, tz_39_22, tz_39_22n, tz_47_0, tz_47_1, tz_47_4, tk_0, tq_0_0, tq_0_1, tq_0_2, tq_0_3, tq_0_4, tq_0_5, tq_0_6, tq_t, tq_s, tw_va_s, tw_va_n, tw_K_s, tw_K_n, and_true, true_and, and_false, false_and, true_or, or_true, not_true_eq_false, not_false_eq_true, ↓reduceIte, Nat.reduceEqDiff, tw_tk ht, h1, tw_get, c1, c2, c4, c5, tw_tq ht, tw_tk1 ht, tw_tj1 ht, tw_tq1 ht t s i (show j < 60 by omega), tw_tk2 ht (show j < 60 by omega), vp_in_nI (show j < 60 by omega) (by omega), n5, n01]
    by_cases h : (dy j).1 = 0 <;> simp [h]
/-- what waits tells of a node -/
def tw_wt (n : tw_Nd) (dy : Int32 × Int32 × Int32) : Int32 := if n.1 = 5 then dy.2.1 else if 6 ≤ n.1 then dy.2.2 else -9
set_option maxRecDepth 100000 in
theorem tw_p_waits (ht : t = 1 ∨ t = 63) (hv : tw_pv N pg) (hC : tw_Cn mi t N pg dy) (x : Int32) : tw_E sc (d + 2) 9 0 [some (.ref 0), some (.int x), none] [] tw_g0 mi (tw_r0 t s i) Q = Q (some (.int (tw_get N x (fun j => tw_wt (pg j) (dy j)) (-1)))) tw_g0 mi (tw_r0 t s i) := by
  obtain ⟨hN, h1, hn⟩ := hC
  rcases tw_ixc x (T := N) (by omega) with ⟨c1, c2⟩ | ⟨c1, c2, c3, c4⟩ | ⟨j, hj, rfl, c1, c2, c3, c4, c5⟩
  · simp only [tz_9_0, tz_9_1, tz_9_4, tz_9_5, tz_9_8, tz_9_8n, tz_9_9, tz_9_9n, tz_9_10, tz_9_10n, tz_9_13, tz_9_14, tz_9_17, tz_9_17n, tz_9_18, tz_9_21, tz_39_0, tz_39_1, tz_39_4, tz_39_5, tz_39_6, tz_39_9, tz_39_12, tz_39_13, tz_39_16, tz_39_17, tz_39_18, tz_39_21, tz_39_22, tz_39_22n, tk_0, tq_0_0, tq_0_1, tq_0_2, tq_0_3, tq_0_4, tq_0_5, tq_0_6, tq_t, tq_s, tw_va_s, tw_va_n, tw_K_s, tw_K_n, and_true, true_and, and_false, false_and, true_or, or_true, not_true_eq_false, not_false_eq_true, ↓reduceIte, Nat.reduceEqDiff, tw_tk ht, h1, tw_get, c1, c2]
  · simp only [tz_9_0, tz_9_1, tz_9_4, tz_9_5, tz_9_8, tz_9_8n, tz_9_9, tz_9_9n, tz_9_10, tz_9_10n, tz_9_13, tz_9_14, tz_9_17, tz_9_17n, tz_9_18, tz_9_21, tz_39_0, tz_39_1, tz_39_4, tz_39_5, tz_39_6, tz_39_9, tz_39_12, tz_39_13, tz_39_16, tz_39_17, tz_39_18, tz_39_21, tz_39_22, tz_39_22n, tk_0, tq_0_0, tq_0_1, tq_0_2, tq_0_3, tq_0_4, tq_0_5, tq_0_6, tq_t, tq_s, tw_va_s, tw_va_n, tw_K_s, tw_K_n, and_true, true_and, and_false, false_and, true_or, or_true, not_true_eq_false, not_false_eq_true, ↓reduceIte, Nat.reduceEqDiff, tw_tk ht, h1, tw_get, c1, c2, c4]
  · obtain ⟨n0, n1, n2, n3, n4, n5, n6, n7, n01⟩ := hn j hj
    have h7 := (hv.2 j hj).1
    simp only [tz_9_0, tz_9_1, tz_9_4, tz_9_5, tz_9_8, tz_9_8n, tz_9_9, tz_9_9n, tz_9_10, tz_9_10n, tz_9_13, tz_9_14, tz_9_17, tz_9_17n, tz_9_18, tz_9_21, tz_39_0, tz_39_1, tz_39_4, tz_39_5, tz_39_6, tz_39_9, tz_39_12, tz_39_13, tz_39_16, tz_39_17, tz_39_18, tz_39_21, tz_39_22, tz_39_22n, tz_50_0, tz_50_1, tz_50_4, tz_50_5, tz_50_8, tz_50_9, tz_50_12, tz_50_13, tz_50_14, tz_50_17, tz_50_20, tz_50_21, tz_50_24, tz_50_27, tz_50_29, tz_56_0, tz_56_1, tz_56_4, tz_56_6, tz_56_9, tz_56_10, tz_56_13, tz_56_15, tz_56_18, tz_56_19, tz_56_22, tz_56_23, tk_0, tq_0_0, tq_0_1, tq_0_2, tq_0_3, tq_0_4, tq_0_5, tq_0_6, tq_t, tq_s, tw_va_s, tw_va_n, tw_K_s, tw_K_n, and_true, true_and, and_false, false_and, true_or, or_true, not_true_eq_false, not_false_eq_true, ↓reduceIte, Nat.reduceEqDiff, tw_tk ht, h1, tw_get, c1, c2, c4, c5, tw_tq ht, tw_tk1 ht, tw_tj1 ht, tw_tq1 ht t s i (show j < 60 by omega), tw_tk2 ht (show j < 60 by omega), vp_in_nI (show j < 60 by omega) (by omega), n0, n6, n7]
    unfold tw_wt
    generalize (pg j).1 = kd at h7
    rcases (show kd = 0 ∨ kd = 1 ∨ kd = 2 ∨ kd = 3 ∨ kd = 4 ∨ kd = 5 ∨ kd = 6 ∨ kd = 7 by omega) with rfl | rfl | rfl | rfl | rfl | rfl | rfl | rfl <;> simp [nI, show ¬ (Int32.ofNat 0 = 5) by decide]
set_option maxRecDepth 100000 in
theorem tw_q_holds (hC : tw_Mn mi N pg dy) (x : Int32) : tw_E sc (d + 1) 151 0 [some (.ref 139), some (.int x)] [] tw_g0 mi (tw_r0 t s i) Q = Q (some (.int (tw_get N x (fun j => if (dy j).1 = 0 then 0 else 1) (-1)))) tw_g0 (tw_th mi) (tw_r0 t s i) := by
  obtain ⟨hN, h1, hn⟩ := hC
  have e5 : tw_th mi 139 5 = mi 139 5 := tw_th_x mi (by decide)
  have e151 : tw_th mi 151 = mi 151 := tw_th_a mi (by decide)
  rw [tz_151_0, tz_151_1, tz_151_2]
  rw [show tw_st mi 139 (tw_st (mi 139) 0 0) = tw_th mi from rfl, show (tw_kd tw_g0 139 = 10) = True from by simp [tk_139], true_and]
  simp only [tz_151_0, tz_151_1, tz_151_2, tz_151_5, tz_151_6, tz_151_7, tz_151_8, tz_151_9, tz_151_12, tz_151_13, tz_151_14, tz_151_15, tz_151_18, tz_151_21, tz_151_22, tz_151_25, tz_151_26, tz_151_29, tz_151_30, tz_151_31, tz_151_34, tz_151_35, tz_151_38, tz_151_39, tk_139, tq_139_1, tq_139_6, tq_139_7, tq_139_8, tq_139_9, tq_139_10, tq_139_12, tq_139_13, tq_139_14, tq_139_15, tq_139_16, tq_139_17, tq_139_18, tq_139_19, tq_139_21, tq_139_22, tq_139_24, tq_139_26, tq_139_27, tq_139_28, tq_139_34, tq_139_35, tq_139_36, tq_139_37, tw_va_s, tw_va_n, tw_K_s, tw_K_n, and_true, true_and, and_false, false_and, true_or, or_true, not_true_eq_false, not_false_eq_true, ↓reduceIte, Nat.reduceEqDiff, tw_L0, tw_q_in, e5, h1, tw_inT (show N < 2 ^ 31 by omega), tw_b0]
  rcases tw_ixc x (T := N) (by omega) with ⟨c1, c2⟩ | ⟨c1, c2, c3, c4⟩ | ⟨j, hj, rfl, c1, c2, c3, c4, c5⟩
  · simp only [tw_get, c2]
    simp
  · simp only [tw_get, c4]
    simp
  · obtain ⟨n0, n1, n2, n3, n4, n5, n6, n7, n01⟩ := hn j hj
    simp only [tw_get, c4, c5, tk_151, tj_151, e151, n5, vp_in_nI (show j < 64 by omega) (by omega)]
    by_cases h0 : (dy j).1 = 0 <;> simp [h0]
set_option maxRecDepth 100000 in
theorem tw_q_waits (hv : tw_pv N pg) (hC : tw_Mn mi N pg dy) (x : Int32) : tw_E sc (d + 1) 152 0 [some (.ref 139), some (.int x)] [] tw_g0 mi (tw_r0 t s i) Q = Q (some (.int (tw_get N x (fun j => tw_wt (pg j) (dy j)) (-1)))) tw_g0 (tw_th mi) (tw_r0 t s i) := by
  obtain ⟨hN, h1, hn⟩ := hC
  have e5 : tw_th mi 139 5 = mi 139 5 := tw_th_x mi (by decide)
  have e141 : tw_th mi 141 = mi 141 := tw_th_a mi (by decide)
  have e152 : tw_th mi 152 = mi 152 := tw_th_a mi (by decide)
  have e153 : tw_th mi 153 = mi 153 := tw_th_a mi (by decide)
  rw [tz_152_0, tz_152_1, tz_152_2]
  rw [show tw_st mi 139 (tw_st (mi 139) 0 0) = tw_th mi from rfl, show (tw_kd tw_g0 139 = 10) = True from by simp [tk_139], true_and]
  simp only [tz_152_0, tz_152_1, tz_152_2, tz_152_5, tz_152_6, tz_152_7, tz_152_8, tz_152_9, tz_152_12, tz_152_13, tz_152_14, tz_152_15, tz_152_18, tz_152_21, tz_152_22, tz_152_25, tz_152_26, tz_152_29, tz_152_30, tz_152_31, tz_152_32, tz_152_35, tz_152_36, tz_152_39, tz_152_40, tz_152_41, tz_152_44, tz_152_45, tz_152_48, tz_152_49, tz_152_50, tz_152_52, tz_152_55, tz_152_56, tz_152_59, tz_152_60, tz_152_61, tz_152_64, tz_152_66, tk_139, tq_139_1, tq_139_6, tq_139_7, tq_139_8, tq_139_9, tq_139_10, tq_139_12, tq_139_13, tq_139_14, tq_139_15, tq_139_16, tq_139_17, tq_139_18, tq_139_19, tq_139_21, tq_139_22, tq_139_24, tq_139_26, tq_139_27, tq_139_28, tq_139_34, tq_139_35, tq_139_36, tq_139_37, tw_va_s, tw_va_n, tw_K_s, tw_K_n, and_true, true_and, and_false, false_and, true_or, or_true, not_true_eq_false, not_false_eq_true, ↓reduceIte, Nat.reduceEqDiff, tw_L0, tw_q_in, e5, h1, tw_inT (show N < 2 ^ 31 by omega), tw_b0]
  rcases tw_ixc x (T := N) (by omega) with ⟨c1, c2⟩ | ⟨c1, c2, c3, c4⟩ | ⟨j, hj, rfl, c1, c2, c3, c4, c5⟩
  · simp only [tw_get, c2]
    simp
  · simp only [tw_get, c4]
    simp
  · obtain ⟨n0, n1, n2, n3, n4, n5, n6, n7, n01⟩ := hn j hj
    have h7 := (hv.2 j hj).1
    simp only [tw_get, c4, c5, tk_141, tj_141, tk_152, tj_152, tk_153, tj_153, e141, e152, e153, n0, n6, n7, vp_in_nI (show j < 64 by omega) (by omega)]
    unfold tw_wt
    generalize (pg j).1 = kd at h7
    rcases (show kd = 0 ∨ kd = 1 ∨ kd = 2 ∨ kd = 3 ∨ kd = 4 ∨ kd = 5 ∨ kd = 6 ∨ kd = 7 by omega) with rfl | rfl | rfl | rfl | rfl | rfl | rfl | rfl <;> simp [nI]
set_option maxRecDepth 100000 in
theorem tw_q_beginl : ∀ f k (mi : tw_I), N = k + f → tw_Mt2 mi N pg → (∀ j, j < k → mi 151 j = 0 ∧ mi 152 j = 0 ∧ mi 153 j = -9) →
    (∀ mi', tw_Mn mi' N pg tw_zd → (∀ a, a ≠ 151 → a ≠ 152 → a ≠ 153 → mi' a = mi a) → Q none tw_g0 mi' (tw_r0 t s i)) →
    tw_E sc d 142 7 [some (.ref 139), some (.int (nI k))] [] tw_g0 mi (tw_r0 t s i) Q := by
  intro f
  induction f with
  | zero =>
    intro k mi hk hC hj hQ
    obtain rfl : k = N := by omega
    have h60 := hC.1
    rw [tz_142_7]
    simp only [tz_142_0, tz_142_1, tz_142_2, tz_142_5, tz_142_6, tz_142_8, tz_142_9, tz_142_12, tz_142_15, tz_142_16, tz_142_19, tz_142_20, tz_142_21, tz_142_22, tz_142_23, tz_142_26, tz_142_27, tz_142_28, tz_142_29, tz_142_30, tz_142_33, tz_142_34, tz_142_36, tz_142_37, tz_142_40, tz_142_43, tk_139, tq_139_1, tq_139_6, tq_139_7, tq_139_8, tq_139_9, tq_139_10, tq_139_12, tq_139_13, tq_139_14, tq_139_15, tq_139_16, tq_139_17, tq_139_18, tq_139_19, tq_139_21, tq_139_22, tq_139_24, tq_139_26, tq_139_27, tq_139_28, tq_139_34, tq_139_35, tq_139_36, tq_139_37, tw_va_s, tw_va_n, tw_K_s, tw_K_n, and_true, true_and, and_false, false_and, true_or, or_true, not_true_eq_false, not_false_eq_true, ↓reduceIte, Nat.reduceEqDiff, hC.2.1]
    rw [tw_le_t (by omega) (by omega)]
    refine hQ mi ⟨h60, hC.2.1, fun j h => ?_⟩ (fun _ _ _ _ => rfl)
    obtain ⟨n0, n1, n2, n3, n4⟩ := hC.2.2 j h
    obtain ⟨a, b, c⟩ := hj j h
    exact ⟨n0, n1, n2, n3, n4, a, b, c, Or.inl rfl⟩
  | succ f ih =>
    intro k mi hk hC hj hQ
    have hkN : k < N := by omega
    have h60 := hC.1
    rw [tz_142_7]
    simp only [tz_142_0, tz_142_1, tz_142_2, tz_142_5, tz_142_6, tz_142_8, tz_142_9, tz_142_12, tz_142_15, tz_142_16, tz_142_19, tz_142_20, tz_142_21, tz_142_22, tz_142_23, tz_142_26, tz_142_27, tz_142_28, tz_142_29, tz_142_30, tz_142_33, tz_142_34, tz_142_36, tz_142_37, tz_142_40, tz_142_43, tk_139, tq_139_1, tq_139_6, tq_139_7, tq_139_8, tq_139_9, tq_139_10, tq_139_12, tq_139_13, tq_139_14, tq_139_15, tq_139_16, tq_139_17, tq_139_18, tq_139_19, tq_139_21, tq_139_22, tq_139_24, tq_139_26, tq_139_27, tq_139_28, tq_139_34, tq_139_35, tq_139_36, tq_139_37, tk_151, tj_151, tk_152, tj_152, tk_153, tj_153, tw_va_s, tw_va_n, tw_K_s, tw_K_n, and_true, true_and, and_false, false_and, true_or, or_true, not_true_eq_false, not_false_eq_true, ↓reduceIte, Nat.reduceEqDiff, hC.2.1, nI_clamp (show k < 2 ^ 31 by omega), vp_in_nI (show k < 64 by omega) (by omega), true_or]
    rw [tw_le_f (by omega) (by omega)]
    simp only [tw_va_s, tw_va_n, tw_K_s, tw_K_n, and_true, true_and, and_false, false_and, true_or, or_true, not_true_eq_false, not_false_eq_true, ↓reduceIte, Nat.reduceEqDiff, nI_1]
    have hr : ∀ mi3 : tw_I, (∀ a, a ≠ 151 → a ≠ 152 → a ≠ 153 → mi3 a = mi a) → (∀ j, j ≠ k → mi3 151 j = mi 151 j ∧ mi3 152 j = mi 152 j ∧ mi3 153 j = mi 153 j) → mi3 151 k = 0 ∧ mi3 152 k = 0 ∧ mi3 153 k = -9 → tw_E sc d 142 7 [some (.ref 139), some (.int (nI (k + 1)))] [] tw_g0 mi3 (tw_r0 t s i) Q := by
      intro mi3 g1 g2 g3
      refine ih (k + 1) mi3 (by omega) ⟨h60, by rw [g1 139 (by decide) (by decide) (by decide)]; exact hC.2.1, fun j hj2 => ?_⟩ (fun j hj2 => ?_) (fun mi2 r1 r2 => hQ mi2 r1 (fun a h1 h2 h3 => by rw [r2 a h1 h2 h3, g1 a h1 h2 h3]))
      · rw [g1 141 (by decide) (by decide) (by decide), g1 142 (by decide) (by decide) (by decide), g1 143 (by decide) (by decide) (by decide), g1 144 (by decide) (by decide) (by decide), g1 145 (by decide) (by decide) (by decide)]
        exact hC.2.2 j hj2
      · by_cases hjk : j = k
        · subst hjk; exact g3
        · obtain ⟨a, b, c⟩ := g2 j hjk
          rw [a, b, c]
          exact hj j (by omega)
    refine hr _ (fun a h1 h2 h3 => ?_) (fun j hj2 => ⟨?_, ?_, ?_⟩) ⟨?_, ?_, ?_⟩
    · simp only [tw_st_ap, if_neg h1, if_neg h2, if_neg h3]
    · simp only [tw_st_ap, ↓reduceIte, Nat.reduceEqDiff, if_neg hj2]
    · simp only [tw_st_ap, ↓reduceIte, Nat.reduceEqDiff, if_neg hj2]
    · simp only [tw_st_ap, ↓reduceIte, Nat.reduceEqDiff, if_neg hj2]
    · simp [tw_st_ap]
    · simp [tw_st_ap]
    · simp [tw_st_ap]
set_option maxRecDepth 100000 in
theorem tw_q_begin (hC : tw_Mt2 mi N pg)
    (hQ : ∀ mi', tw_MS mi' N pg tw_S0 → (∀ a, a ≠ 139 → a ≠ 151 → a ≠ 152 → a ≠ 153 → mi' a = mi a) → (∀ z, z ≠ 20 → mi' 139 z = mi 139 z) → Q none tw_g0 mi' (tw_r0 t s i)) :
    tw_E sc d 142 0 [some (.ref 139), none] [] tw_g0 mi (tw_r0 t s i) Q := by
  rw [tz_142_0, tz_142_1, tz_142_2]
  refine ⟨tk_139, ?_⟩
  rw [tz_142_5, tz_142_6]
  have h1 : tw_Mt2 (tw_st mi 139 (tw_st (mi 139) 20 0)) N pg := by
    unfold tw_Mt2 at hC ⊢
    rw [tw_st_s, tw_st_n _ _ (by decide), tw_st_n _ _ (by decide), tw_st_n _ _ (by decide), tw_st_n _ _ (by decide), tw_st_n _ _ (by decide), tw_st_n _ _ (by decide)]
    exact hC
  refine tw_q_beginl (N := N) (pg := pg) N 0 _ (by omega) h1 (fun j hj => absurd hj (Nat.not_lt_zero j)) (fun mi' w1 w2 => ?_)
  have e139 : mi' 139 = tw_st (mi 139) 20 0 := by rw [w2 139 (by decide) (by decide) (by decide), tw_st_s]
  refine hQ mi' ⟨⟨by show 0 ≤ 4000; omega, ?_, fun j hj => absurd hj (Nat.not_lt_zero j), fun j hj => absurd hj (Nat.not_lt_zero j)⟩, w1⟩ (fun a h1 h2 h3 h4 => by rw [w2 a h2 h3 h4, tw_st_n _ _ h1]) (fun z hz => by rw [e139, tw_st_n _ _ hz])
  rw [e139, tw_st_s]; rfl
set_option maxRecDepth 100000 in
theorem tw_q_arm (hC : tw_MS mi N pg S) (hI : tw_is mi N)
    (hQ : ∀ mi', tw_MS mi' N pg (tw_arm0 N S).1 → (∀ a, a ≠ 139 → a ≠ 151 → a ≠ 152 → a ≠ 153 → mi' a = mi a) → (∀ z, z ≠ 0 → z ≠ 20 → mi' 139 z = mi 139 z) → Q (some (.int (tw_arm0 N S).2)) tw_g0 mi' (tw_r0 t s i)) :
    tw_E sc (d + 1) 145 0 [some (.ref 139), none] [] tw_g0 mi (tw_r0 t s i) Q := by
  have hth := tw_MS_th hC
  have c20 : mi 139 20 = nI S.1 := hC.1.2.1
  unfold tw_is at hI
  rw [tz_145_0, tz_145_1, tz_145_2]
  refine ⟨tk_139, ?_⟩
  rw [show tw_st mi 139 (tw_st (mi 139) 0 0) = tw_th mi from rfl]
  have e4 : tw_th mi 139 4 = mi 139 4 := tw_th_x mi (by decide)
  have e20 : tw_th mi 139 20 = mi 139 20 := tw_th_x mi (by decide)
  by_cases h0 : N = 0
  · have e : tw_arm0 N S = (S, -3) := if_pos h0
    rw [e] at hQ
    rw [if_pos h0] at hI
    simp only [tz_145_0, tz_145_1, tz_145_2, tz_145_5, tz_145_6, tz_145_9, tz_145_12, tz_145_14, tz_145_15, tz_145_16, tz_145_19, tz_145_20, tz_145_21, tz_145_24, tz_145_25, tk_139, tq_139_1, tq_139_6, tq_139_7, tq_139_8, tq_139_9, tq_139_10, tq_139_12, tq_139_13, tq_139_14, tq_139_15, tq_139_16, tq_139_17, tq_139_18, tq_139_19, tq_139_21, tq_139_22, tq_139_24, tq_139_26, tq_139_27, tq_139_28, tq_139_34, tq_139_35, tq_139_36, tq_139_37, tw_va_s, tw_va_n, tw_K_s, tw_K_n, and_true, true_and, and_false, false_and, true_or, or_true, not_true_eq_false, not_false_eq_true, ↓reduceIte, Nat.reduceEqDiff, e4, hI]
    exact hQ _ hth (fun a h1 _ _ _ => tw_th_a mi h1) (fun z h1 _ => tw_th_x mi h1)
  · have e : tw_arm0 N S = (tw_S0, nI S.1) := if_neg h0
    rw [e] at hQ
    rw [if_neg h0] at hI
    simp only [tz_145_0, tz_145_1, tz_145_2, tz_145_5, tz_145_6, tz_145_9, tz_145_12, tz_145_14, tz_145_15, tz_145_16, tz_145_19, tz_145_20, tz_145_21, tz_145_24, tz_145_25, tk_139, tq_139_1, tq_139_6, tq_139_7, tq_139_8, tq_139_9, tq_139_10, tq_139_12, tq_139_13, tq_139_14, tq_139_15, tq_139_16, tq_139_17, tq_139_18, tq_139_19, tq_139_21, tq_139_22, tq_139_24, tq_139_26, tq_139_27, tq_139_28, tq_139_34, tq_139_35, tq_139_36, tq_139_37, tw_va_s, tw_va_n, tw_K_s, tw_K_n, and_true, true_and, and_false, false_and, true_or, or_true, not_true_eq_false, not_false_eq_true, ↓reduceIte, Nat.reduceEqDiff, e4, e20, c20, hI, show ¬ (1 : Int32) = 0 by decide]
    refine tw_q_begin (tw_Mn_t hth.2) (fun mi' w1 w2 w3 => ?_)
    simp only [tz_145_0, tz_145_1, tz_145_2, tz_145_5, tz_145_6, tz_145_9, tz_145_12, tz_145_14, tz_145_15, tz_145_16, tz_145_19, tz_145_20, tz_145_21, tz_145_24, tz_145_25, tw_va_s, tw_va_n, tw_K_s, tw_K_n, and_true, true_and, and_false, false_and, true_or, or_true, not_true_eq_false, not_false_eq_true, ↓reduceIte, Nat.reduceEqDiff]
    exact hQ mi' w1 (fun a h1 h2 h3 h4 => by rw [w2 a h1 h2 h3 h4, tw_th_a mi h1]) (fun z h1 h2 => by rw [w3 z h2, tw_th_x mi h1])
end tw_arm
