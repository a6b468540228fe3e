/-! the reference's samples that come -/
def tw_MS (mi : tw_I) (N : Nat) (pg : Nat → tw_Nd) (S : tw_Hs) : Prop := tw_Mh mi S.1 S.2.1 S.2.2.1 ∧ tw_Mn mi N pg S.2.2.2
section tw_come
variable {sc : Nat × (Nat → Int32)} {d t s i N k T : Nat} {mi : tw_I} {Q : Option Value → tw_G → tw_I → tw_Q → Prop} {pg : Nat → tw_Nd} {dy : tw_Dy} {sm hd : Nat → Int32}
set_option maxRecDepth 100000 in
theorem tw_q_comel (hv : tw_pv N pg) (z : Int32) {y x : Int32} (hT : T < 4000) : ∀ f k (mi : tw_I), N = k + f → tw_Mn mi N pg (tw_dn pg T y x k dy) → mi 154 T = x → (0 < T → mi 154 (T - 1) = y) → mi 139 20 = nI T →
    (∀ mi', tw_Mn mi' N pg (tw_dn pg T y x N dy) → (∀ a, a ≠ 151 → a ≠ 152 → a ≠ 153 → mi' a = mi a) → tw_E sc (d + 2) 149 41 [some (.ref 139), some (.int z), some (.int (nI N))] [] tw_g0 mi' (tw_r0 t s i) Q) →
    tw_E sc (d + 2) 149 12 [some (.ref 139), some (.int z), some (.int (nI k))] [] tw_g0 mi (tw_r0 t s i) Q := by
  intro f
  induction f with
  | zero =>
    intro k mi hk hC hx hy h20 hQ
    obtain rfl : k = N := by omega
    have h60 := hC.1
    rw [tz_149_12, tz_149_13, tz_149_14]
    refine ⟨tk_139, ?_⟩
    rw [hC.2.1, tz_149_17, tw_le_t (by omega) (by omega)]
    exact hQ mi hC (fun _ _ _ _ => rfl)
  | succ f ih =>
    intro k mi hk hC hx hy h20 hQ
    have hkN : k < N := by omega
    have h60 := hC.1
    rw [tz_149_12]
    simp only [tz_149_0, tz_149_1, tz_149_4, tz_149_5, tz_149_8, tz_149_9, tz_149_10, tz_149_11, tz_149_13, tz_149_14, tz_149_17, tz_149_20, tz_149_21, tz_149_24, tz_149_25, tz_149_26, tz_149_27, tz_149_28, tz_149_31, tz_149_34, tz_149_35, tz_149_38, tz_149_41, tz_149_42, tz_149_45, tz_149_46, tz_149_49, tz_149_50, tz_149_53, tz_149_54, tz_149_57, tz_149_58, tz_149_59, tz_149_60, tz_149_61, tz_149_62, tz_149_63, tz_149_66, tz_149_67, tz_149_68, tz_149_71, tz_149_72, tz_149_75, tz_149_76, tz_149_79, tz_149_80, tz_149_81, tz_149_82, tz_149_85, tz_149_86, tz_149_89, tz_149_90, tk_139, tq_139_1, tq_139_6, tq_139_7, tq_139_8, tq_139_9, tq_139_10, tq_139_12, tq_139_13, tq_139_14, tq_139_15, tq_139_16, tq_139_17, tq_139_18, tq_139_19, tq_139_21, tq_139_22, tq_139_24, tq_139_26, tq_139_27, tq_139_28, tq_139_34, tq_139_35, tq_139_36, tq_139_37, tw_va_s, tw_va_n, tw_K_s, tw_K_n, and_true, true_and, and_false, false_and, true_or, or_true, not_true_eq_false, not_false_eq_true, ↓reduceIte, Nat.reduceEqDiff, hC.2.1, h20]
    rw [tw_le_f (by omega) (by omega)]
    refine tw_q_node hC hkN (hv.2 k hkN) hT hx hy (fun mi' q1 q2 q3 q4 q5 => ?_)
    have hns := tw_ns01 (pg k) (hv.2 k hkN).1 (fun j => (tw_dn pg T y x k dy j).1) (tw_dn pg T y x k dy k).2.1 (tw_dn pg T y x k dy k).2.2 T y x
    have e151 : mi' 151 = mi 151 := q1 151 (by decide) (by decide)
    rw [tw_K_s, tz_149_34]
    refine ⟨⟨tk_151, hns, by rw [tj_151]; exact vp_in_nI (by omega) (by omega)⟩, ?_⟩
    rw [nI_clamp (show k < 2 ^ 31 by omega), tz_149_35, nI_1, tz_149_38]
    have fr : ∀ a, a ≠ 151 → tw_st mi' 151 (tw_st (mi' 151) k (tw_ns (pg k) (fun j => (tw_dn pg T y x k dy j).1) (tw_dn pg T y x k dy k).2.1 (tw_dn pg T y x k dy k).2.2 T y x).1) a = mi' a := fun a ha => tw_st_n _ _ ha
    refine ih (k + 1) _ (by omega) ⟨h60, by rw [fr 139 (by decide), q1 139 (by decide) (by decide)]; exact hC.2.1, fun j hj => ?_⟩ (by rw [fr 154 (by decide), q1 154 (by decide) (by decide)]; exact hx) (fun h0 => by rw [fr 154 (by decide), q1 154 (by decide) (by decide)]; exact hy h0) (by rw [fr 139 (by decide), q1 139 (by decide) (by decide)]; exact h20) (fun mi2 r1 r2 => hQ mi2 r1 (fun a h1 h2 h3 => by rw [r2 a h1 h2 h3, fr a h1, q1 a h2 h3]))
    obtain ⟨n0, n1, n2, n3, n4, n5, n6, n7, n01⟩ := hC.2.2 j hj
    rw [fr 141 (by decide), fr 142 (by decide), fr 143 (by decide), fr 144 (by decide), fr 145 (by decide), fr 152 (by decide), fr 153 (by decide), q1 141 (by decide) (by decide), q1 142 (by decide) (by decide), q1 143 (by decide) (by decide), q1 144 (by decide) (by decide), q1 145 (by decide) (by decide), tw_st_s]
    simp only [tw_dn]
    by_cases hjk : j = k
    · subst hjk
      rw [tw_st_s, tw_st_s]
      exact ⟨n0, n1, n2, n3, n4, rfl, q4, q5, hns⟩
    · rw [tw_st_n _ _ hjk, tw_st_n _ _ hjk, e151, q2 j hjk, q3 j hjk]
      exact ⟨n0, n1, n2, n3, n4, n5, n6, n7, n01⟩
set_option maxRecDepth 100000 in
theorem tw_q_come (hv : tw_pv N pg) (hN : 1 ≤ N) {S : tw_Hs} {x : Int32} (hS : S.1 < 4000) (hC : tw_MS mi N pg S)
    (hQ : ∀ mi', tw_MS mi' N pg (tw_cm pg N x S) → (∀ a, a ≠ 139 → a ≠ 151 → a ≠ 152 → a ≠ 153 → a ≠ 154 → a ≠ 155 → mi' a = mi a) → (∀ z, z ≠ 20 → mi' 139 z = mi 139 z) → Q (some (.int (tw_cr pg N x S))) tw_g0 mi' (tw_r0 t s i)) :
    tw_E sc (d + 2) 149 0 [some (.ref 139), some (.int x), none] [] tw_g0 mi (tw_r0 t s i) Q := by
  obtain ⟨hM, hn⟩ := hC
  have c20 := hM.2.1
  have cT := nI_clamp (show S.1 < 2 ^ 31 by omega)
  have vT : vp_in (nI S.1) 4000 := vp_in_nI (by omega) (by omega)
  simp only [tz_149_0, tz_149_1, tz_149_4, tz_149_5, tz_149_8, tz_149_9, tz_149_10, tz_149_11, tz_149_13, tz_149_14, tz_149_17, tz_149_20, tz_149_21, tz_149_24, tz_149_25, tz_149_26, tz_149_27, tz_149_28, tz_149_31, tz_149_34, tz_149_35, tz_149_38, tz_149_41, tz_149_42, tz_149_45, tz_149_46, tz_149_49, tz_149_50, tz_149_53, tz_149_54, tz_149_57, tz_149_58, tz_149_59, tz_149_60, tz_149_61, tz_149_62, tz_149_63, tz_149_66, tz_149_67, tz_149_68, tz_149_71, tz_149_72, tz_149_75, tz_149_76, tz_149_79, tz_149_80, tz_149_81, tz_149_82, tz_149_85, tz_149_86, tz_149_89, tz_149_90, tk_139, tq_139_1, tq_139_6, tq_139_7, tq_139_8, tq_139_9, tq_139_10, tq_139_12, tq_139_13, tq_139_14, tq_139_15, tq_139_16, tq_139_17, tq_139_18, tq_139_19, tq_139_21, tq_139_22, tq_139_24, tq_139_26, tq_139_27, tq_139_28, tq_139_34, tq_139_35, tq_139_36, tq_139_37, tk_154, tj_154, tw_va_s, tw_va_n, tw_K_s, tw_K_n, and_true, true_and, and_false, false_and, true_or, or_true, not_true_eq_false, not_false_eq_true, ↓reduceIte, Nat.reduceEqDiff, c20, cT, vT]
  have fr : ∀ a, a ≠ 154 → tw_st mi 154 (tw_st (mi 154) S.1 x) a = mi a := fun a ha => tw_st_n _ _ ha
  have hn0 : tw_Mn (tw_st mi 154 (tw_st (mi 154) S.1 x)) N pg (tw_dn pg S.1 (tw_yy S) x 0 S.2.2.2) := by
    unfold tw_Mn at hn ⊢
    rw [fr 139 (by decide), fr 141 (by decide), fr 142 (by decide), fr 143 (by decide), fr 144 (by decide), fr 145 (by decide), fr 151 (by decide), fr 152 (by decide), fr 153 (by decide)]
    exact hn
  refine tw_q_comel hv x hS (y := tw_yy S) N 0 _ (by omega) hn0 (by rw [tw_st_s, tw_st_s]) (fun h0 => ?_) (by rw [fr 139 (by decide)]; exact c20) (fun mi' q1 q2 => ?_)
  · rw [tw_st_s, tw_st_n _ _ (by omega), hM.2.2.1 (S.1 - 1) (by omega)]
    unfold tw_yy
    rw [if_neg (by omega)]
  have e139 : mi' 139 = mi 139 := by rw [q2 139 (by decide) (by decide) (by decide), fr 139 (by decide)]
  have e154 : mi' 154 = tw_st (mi 154) S.1 x := by rw [q2 154 (by decide) (by decide) (by decide), tw_st_s]
  have e155 : mi' 155 = mi 155 := by rw [q2 155 (by decide) (by decide) (by decide), fr 155 (by decide)]
  have h60 := hv.1
  have eN : nI N - 1 = nI (N - 1) := pk_sub (b := 1) hN
  obtain ⟨n0, n1, n2, n3, n4, n5, n6, n7, n01⟩ := q1.2.2 (N - 1) (by omega)
  have n5' : mi' 151 (N - 1) = tw_cr pg N x S := n5
  have n01' : tw_cr pg N x S = 0 ∨ tw_cr pg N x S = 1 := n01
  have c5 : mi 139 5 = nI N := hn.2.1
  simp only [tz_149_0, tz_149_1, tz_149_4, tz_149_5, tz_149_8, tz_149_9, tz_149_10, tz_149_11, tz_149_13, tz_149_14, tz_149_17, tz_149_20, tz_149_21, tz_149_24, tz_149_25, tz_149_26, tz_149_27, tz_149_28, tz_149_31, tz_149_34, tz_149_35, tz_149_38, tz_149_41, tz_149_42, tz_149_45, tz_149_46, tz_149_49, tz_149_50, tz_149_53, tz_149_54, tz_149_57, tz_149_58, tz_149_59, tz_149_60, tz_149_61, tz_149_62, tz_149_63, tz_149_66, tz_149_67, tz_149_68, tz_149_71, tz_149_72, tz_149_75, tz_149_76, tz_149_79, tz_149_80, tz_149_81, tz_149_82, tz_149_85, tz_149_86, tz_149_89, tz_149_90, tk_139, tq_139_1, tq_139_6, tq_139_7, tq_139_8, tq_139_9, tq_139_10, tq_139_12, tq_139_13, tq_139_14, tq_139_15, tq_139_16, tq_139_17, tq_139_18, tq_139_19, tq_139_21, tq_139_22, tq_139_24, tq_139_26, tq_139_27, tq_139_28, tq_139_34, tq_139_35, tq_139_36, tq_139_37, tk_151, tj_151, tk_155, tj_155, tw_va_s, tw_va_n, tw_K_s, tw_K_n, and_true, true_and, and_false, false_and, true_or, or_true, not_true_eq_false, not_false_eq_true, ↓reduceIte, Nat.reduceEqDiff, e139, c20, c5, eN, nI_clamp (show N - 1 < 2 ^ 31 by omega), vp_in_nI (show N - 1 < 64 by omega) (by omega), n5', n01', cT, vT, tw_st_ap, Nat.reduceEqDiff, nI_1, pk_sub (show 1 ≤ S.1 + 1 by omega), nI_pred, e155]
  have key := hQ (tw_st (tw_st mi' 155 (tw_st (mi 155) S.1 (tw_cr pg N x S))) 139 (tw_st (mi 139) 20 (nI (S.1 + 1)))) ⟨⟨by show S.1 + 1 ≤ 4000; omega, by rw [tw_st_s, tw_st_s]; rfl, fun j hj => ?_, fun j hj => ?_⟩, ⟨q1.1, ?_, fun j hj => ?_⟩⟩ (fun a h1 h2 h3 h4 h5 h6 => ?_) (fun z hz => ?_)
  · rcases n01' with q | q <;> simp only [q] at key ⊢ <;> simpa using key
  · have hj3 : j < S.1 + 1 := hj
    rw [tw_st_n _ _ (by decide), tw_st_n _ _ (by decide), e154]
    show _ = tw_st S.2.1 S.1 x j
    by_cases hj2 : j = S.1
    · rw [hj2, tw_st_s, tw_st_s]
    · rw [tw_st_n _ _ hj2, tw_st_n _ _ hj2]
      exact hM.2.2.1 j (by omega)
  · have hj3 : j < S.1 + 1 := hj
    rw [tw_st_n _ _ (by decide), tw_st_s]
    show _ = tw_st S.2.2.1 S.1 (tw_cr pg N x S) j
    by_cases hj2 : j = S.1
    · rw [hj2, tw_st_s, tw_st_s]
    · rw [tw_st_n _ _ hj2, tw_st_n _ _ hj2]
      exact hM.2.2.2 j (by omega)
  · rw [tw_st_s, tw_st_n _ _ (by decide)]
    exact c5
  · rw [tw_st_n _ _ (by decide), tw_st_n _ _ (by decide), tw_st_n _ _ (by decide), tw_st_n _ _ (by decide), tw_st_n _ _ (by decide), tw_st_n _ _ (by decide), tw_st_n _ _ (by decide), tw_st_n _ _ (by decide), tw_st_n _ _ (by decide), tw_st_n _ _ (by decide), tw_st_n _ _ (by decide), tw_st_n _ _ (by decide), tw_st_n _ _ (by decide), tw_st_n _ _ (by decide), tw_st_n _ _ (by decide), tw_st_n _ _ (by decide)]
    exact q1.2.2 j hj
  · rw [tw_st_n _ _ h1, tw_st_n _ _ h6, q2 a h2 h3 h4, fr a h5]
  · rw [tw_st_s, tw_st_n _ _ hz]
set_option maxRecDepth 100000 in
theorem tw_q_saml (hv : tw_pv N pg) (hN : 1 ≤ N) {x : Int32} (n : Nat) (hn : n < 2 ^ 30) : ∀ f k (h : Int32) (S : tw_Hs) (mi : tw_I), n = k + f → tw_MS mi N pg S → S.1 + f ≤ 4000 →
    (∀ mi', tw_MS mi' N pg (tw_mn pg N x f S h).1 → (∀ a, a ≠ 139 → a ≠ 151 → a ≠ 152 → a ≠ 153 → a ≠ 154 → a ≠ 155 → mi' a = mi a) → (∀ z, z ≠ 20 → mi' 139 z = mi 139 z) → Q (some (.int (tw_mn pg N x f S h).2)) tw_g0 mi' (tw_r0 t s i)) →
    tw_E sc (d + 3) 150 62 [some (.ref 139), some (.int x), some (.int (nI n)), some (.int h), some (.int (nI k))] [] tw_g0 mi (tw_r0 t s i) Q := by
  intro f
  induction f with
  | zero =>
    intro k h S mi hk hC hT hQ
    obtain rfl : k = n := by omega
    rw [tz_150_62]
    simp only [tz_150_0, tz_150_1, tz_150_2, tz_150_5, tz_150_6, tz_150_7, tz_150_8, tz_150_11, tz_150_14, tz_150_17, tz_150_18, tz_150_19, tz_150_20, tz_150_23, tz_150_26, tz_150_29, tz_150_31, tz_150_32, tz_150_33, tz_150_36, tz_150_39, tz_150_41, tz_150_42, tz_150_43, tz_150_46, tz_150_47, tz_150_48, tz_150_51, tz_150_54, tz_150_56, tz_150_57, tz_150_58, tz_150_59, tz_150_60, tz_150_64, tz_150_65, tz_150_68, tz_150_69, tz_150_70, tz_150_71, tz_150_74, tz_150_75, tz_150_76, tz_150_79, tz_150_82, tz_150_83, tw_mn]
    rw [tw_le_t (by omega) (by omega)]
    exact hQ mi hC (fun _ _ _ _ _ _ _ => rfl) (fun _ _ => rfl)
  | succ f ih =>
    intro k h S mi hk hC hT hQ
    rw [tz_150_62]
    simp only [tz_150_0, tz_150_1, tz_150_2, tz_150_5, tz_150_6, tz_150_7, tz_150_8, tz_150_11, tz_150_14, tz_150_17, tz_150_18, tz_150_19, tz_150_20, tz_150_23, tz_150_26, tz_150_29, tz_150_31, tz_150_32, tz_150_33, tz_150_36, tz_150_39, tz_150_41, tz_150_42, tz_150_43, tz_150_46, tz_150_47, tz_150_48, tz_150_51, tz_150_54, tz_150_56, tz_150_57, tz_150_58, tz_150_59, tz_150_60, tz_150_64, tz_150_65, tz_150_68, tz_150_69, tz_150_70, tz_150_71, tz_150_74, tz_150_75, tz_150_76, tz_150_79, tz_150_82, tz_150_83, tk_139, tq_139_1, tq_139_6, tq_139_7, tq_139_8, tq_139_9, tq_139_10, tq_139_12, tq_139_13, tq_139_14, tq_139_15, tq_139_16, tq_139_17, tq_139_18, tq_139_19, tq_139_21, tq_139_22, tq_139_24, tq_139_26, tq_139_27, tq_139_28, tq_139_34, tq_139_35, tq_139_36, tq_139_37, tw_va_s, tw_va_n, tw_K_s, tw_K_n, and_true, true_and, and_false, false_and, true_or, or_true, not_true_eq_false, not_false_eq_true, ↓reduceIte, Nat.reduceEqDiff]
    rw [tw_le_f (by omega) (by omega)]
    refine tw_q_come hv hN (by omega) hC (fun mi' q1 q2 q3 => ?_)
    simp only [tz_150_0, tz_150_1, tz_150_2, tz_150_5, tz_150_6, tz_150_7, tz_150_8, tz_150_11, tz_150_14, tz_150_17, tz_150_18, tz_150_19, tz_150_20, tz_150_23, tz_150_26, tz_150_29, tz_150_31, tz_150_32, tz_150_33, tz_150_36, tz_150_39, tz_150_41, tz_150_42, tz_150_43, tz_150_46, tz_150_47, tz_150_48, tz_150_51, tz_150_54, tz_150_56, tz_150_57, tz_150_58, tz_150_59, tz_150_60, tz_150_64, tz_150_65, tz_150_68, tz_150_69, tz_150_70, tz_150_71, tz_150_74, tz_150_75, tz_150_76, tz_150_79, tz_150_82, tz_150_83, tw_va_s, tw_va_n, tw_K_s, tw_K_n, and_true, true_and, and_false, false_and, true_or, or_true, not_true_eq_false, not_false_eq_true, ↓reduceIte, Nat.reduceEqDiff, nI_1]
    exact ih (k + 1) _ (tw_cm pg N x S) mi' (by omega) q1 (by show S.1 + 1 + f ≤ 4000; omega) (fun mi2 r1 r2 r3 => hQ mi2 r1 (fun a h1 h2 h3 h4 h5 h6 => by rw [r2 a h1 h2 h3 h4 h5 h6, q2 a h1 h2 h3 h4 h5 h6]) (fun z hz => by rw [r3 z hz, q3 z hz]))
end tw_come
