/-! the class's tick; samples that come -/
/-- the first k nodes have gone on -/
def tw_dn (pg : Nat → tw_Nd) (T : Nat) (y x : Int32) : Nat → tw_Dy → tw_Dy
  | 0, dy => dy
  | k + 1, dy => tw_st (tw_dn pg T y x k dy) k (tw_ns (pg k) (fun j => (tw_dn pg T y x k dy j).1) (tw_dn pg T y x k dy k).2.1 (tw_dn pg T y x k dy k).2.2 T y x)
set_option maxRecDepth 100000 in
theorem tw_ns01 (n : tw_Nd) (hn : n.1 ≤ 7) (on : Nat → Int32) (of si : Int32) (T : Nat) (y x : Int32) : (tw_ns n on of si T y x).1 = 0 ∨ (tw_ns n on of si T y x).1 = 1 := by
  obtain ⟨kd, a1, a2, lo, hi⟩ := n
  have am : ∀ (td : Prop) [Decidable td] (o1 o2 tk : Int32), (tw_am td lo hi si o1 o2 tk).1 = 0 ∨ (tw_am td lo hi si o1 o2 tk).1 = 1 := by
    intro td _ o1 o2 tk
    unfold tw_am
    generalize (if td ∧ si ≠ -9 ∧ hi < tk - si then (-9 : Int32) else si) = s1
    simp only
    by_cases c1 : s1 = -9
    · rw [if_pos c1]; exact Or.inl rfl
    · rw [if_neg c1]
      by_cases c2 : o2 ≠ 0 ∧ (¬ td ∨ lo ≤ tk - s1)
      · rw [if_pos c2]; exact Or.inr rfl
      · rw [if_neg c2]; exact Or.inl rfl
  simp only at hn
  rcases (show kd = 0 ∨ kd = 1 ∨ kd = 2 ∨ kd = 3 ∨ kd = 4 ∨ kd = 5 ∨ kd = 6 ∨ kd = 7 by omega) with rfl | rfl | rfl | rfl | rfl | rfl | rfl | rfl
  all_goals simp only [tw_ns]
  · split <;> simp
  · split <;> simp
  · split <;> simp
  · split <;> simp
  · split <;> simp
  · split <;> simp
  · exact am _ _ _ _
  · exact am _ _ _ _
abbrev tw_Hs : Type := Nat × (Nat → Int32) × (Nat → Int32) × tw_Dy
def tw_yy (S : tw_Hs) : Int32 := if S.1 = 0 then -1 else S.2.1 (S.1 - 1)
/-- behind a sample x the nodes are so -/
def tw_nd (pg : Nat → tw_Nd) (N : Nat) (x : Int32) (S : tw_Hs) : tw_Dy := tw_dn pg S.1 (tw_yy S) x N S.2.2.2
/-- whether the trigger holds at it -/
def tw_cr (pg : Nat → tw_Nd) (N : Nat) (x : Int32) (S : tw_Hs) : Int32 := (tw_nd pg N x S (N - 1)).1
def tw_cm (pg : Nat → tw_Nd) (N : Nat) (x : Int32) (S : tw_Hs) : tw_Hs := (S.1 + 1, tw_st S.2.1 S.1 x, tw_st S.2.2.1 S.1 (tw_cr pg N x S), tw_nd pg N x S)
/-- n samples x; h: at how many ticks the trigger held ahead -/
def tw_mn (pg : Nat → tw_Nd) (N : Nat) (x : Int32) : Nat → tw_Hs → Int32 → tw_Hs × Int32
  | 0, S, h => (S, h)
  | n + 1, S, h => tw_mn pg N x n (tw_cm pg N x S) (h + tw_cr pg N x S)
set_option maxRecDepth 100000 in
theorem tw_cn_st (hd : Nat → Int32) (T : Nat) (r : Int32) : ∀ n, n ≤ T → tw_cn (tw_st hd T r) n = tw_cn hd n := by
  intro n
  induction n with
  | zero => intro _; rfl
  | succ n ih =>
    intro h
    simp only [tw_cn, ih (by omega), tw_st_n hd r (show n ≠ T by omega)]
/-- a program at its places -/
def tw_pv (N : Nat) (pg : Nat → tw_Nd) : Prop := N ≤ 60 ∧ ∀ k, k < N → tw_ok k (pg k)
/-- the class's samples and nodes -/
def tw_CS (mi : tw_I) (t N : Nat) (pg : Nat → tw_Nd) (S : tw_Hs) : Prop := tw_Ch mi S.1 S.2.1 S.2.2.1 ∧ tw_Cn mi t N pg S.2.2.2
/-- samples are 16 wires, marks of holding 0 or 1 -/
def tw_Sv (S : tw_Hs) : Prop := S.1 ≤ 4000 ∧ (∀ j, j < S.1 → tw_16 (S.2.1 j)) ∧ ∀ j, j < S.1 → S.2.2.1 j = 0 ∨ S.2.2.1 j = 1
set_option maxRecDepth 100000 in
theorem tw_16_nn {x : Int32} (h : tw_16 x) : ¬ x < 0 := by
  obtain ⟨m, hm, rfl⟩ := h
  exact nI_pos (by omega)
section tw_step
variable {sc : Nat × (Nat → Int32)} {d t s i N T : Nat} {mi : tw_I} {Q : Option Value → tw_G → tw_I → tw_Q → Prop} {pg : Nat → tw_Nd} {dy : tw_Dy} {sm hd : Nat → Int32}
set_option maxRecDepth 100000 in
theorem tw_p_stepl (ht : t = 1 ∨ t = 63) (t' : Nat) (hv : tw_pv N pg) (hN : 1 ≤ N) {y x : Int32} (hy : T = 0 ∧ y = -1 ∨ 0 < T ∧ ¬ y < 0) : ∀ f k (mi : tw_I), N = k + f → tw_Cn mi t N pg (tw_dn pg T y x k dy) →
    (∀ mi', tw_Cn mi' t N pg (tw_dn pg T y x N dy) → (∀ a, a < t + 2 ∨ t + 2 + N ≤ a → mi' a = mi a) → Q (some (.int (tw_dn pg T y x N dy (N - 1)).1)) tw_g0 mi' (tw_r0 t' s i)) →
    tw_E sc (d + 4) 41 3 [some (.ref t), some (.int (nI T)), some (.int y), some (.int x), some (.int (nI k))] [] tw_g0 mi (tw_r0 t' s i) Q := by
  intro f
  induction f with
  | zero =>
    intro k mi hk hC hQ
    obtain rfl : k = N := by omega
    have h01 := (hC.2.2 (k - 1) (by omega))
    obtain ⟨n0, n1, n2, n3, n4, n5, n6, n7, n01⟩ := h01
    have e1 : nI k - 1 = nI (k - 1) := pk_sub (b := 1) hN
    rw [tz_41_3]
    simp only [tz_41_0, tz_41_1, tz_41_5, tz_41_6, tz_41_9, tz_41_12, tz_41_13, tz_41_14, tz_41_17, tz_41_19, tz_41_20, tz_41_21, tz_41_22, tz_41_23, tz_41_26, tz_41_29, tz_41_32, tz_41_33, tz_41_34, tz_41_37, tz_41_38, tz_41_39, tz_41_42, tw_va_s, tw_va_n, tw_K_s, tw_K_n, and_true, true_and, and_false, false_and, true_or, or_true, not_true_eq_false, not_false_eq_true, ↓reduceIte, Nat.reduceEqDiff, tw_tk ht, hC.2.1, e1, tw_p_isOn ht t' hC.1 hC.2.1 (show k - 1 < k by omega) (by rw [n5]; exact n01), n5]
    rw [tw_le_t (by omega) (by have := hC.1; omega)]
    have hq := hQ mi hC (fun _ _ => rfl)
    rcases n01 with q | q <;> simp only [q] at hq ⊢ <;> simpa using hq
  | succ f ih =>
    intro k mi hk hC hQ
    have hkN : k < N := by omega
    have h60 := hC.1
    rw [tz_41_3]
    simp only [tz_41_0, tz_41_1, tz_41_5, tz_41_6, tz_41_9, tz_41_12, tz_41_13, tz_41_14, tz_41_17, tz_41_19, tz_41_20, tz_41_21, tz_41_22, tz_41_23, tz_41_26, tz_41_29, tz_41_32, tz_41_33, tz_41_34, tz_41_37, tz_41_38, tz_41_39, tz_41_42, tw_va_s, tw_va_n, tw_K_s, tw_K_n, and_true, true_and, and_false, false_and, true_or, or_true, not_true_eq_false, not_false_eq_true, ↓reduceIte, Nat.reduceEqDiff, tw_tk ht, hC.2.1, tw_tq ht, tw_tk1 ht, tw_tj1 ht, nI_clamp (show k < 2 ^ 31 by omega), tw_tq1 ht t' s i (show k < 60 by omega), vp_in_nI (show k < 60 by omega) (by omega)]
    rw [tw_le_f (by omega) (by omega)]
    refine tw_p_node ht t' hC hkN (hv.2 k hkN) hy (fun mi' q1 q2 q5 q6 q7 => ?_)
    simp only [tz_41_0, tz_41_1, tz_41_5, tz_41_6, tz_41_9, tz_41_12, tz_41_13, tz_41_14, tz_41_17, tz_41_19, tz_41_20, tz_41_21, tz_41_22, tz_41_23, tz_41_26, tz_41_29, tz_41_32, tz_41_33, tz_41_34, tz_41_37, tz_41_38, tz_41_39, tz_41_42, tw_va_s, tw_va_n, tw_K_s, tw_K_n, and_true, true_and, and_false, false_and, true_or, or_true, not_true_eq_false, not_false_eq_true, ↓reduceIte, Nat.reduceEqDiff, nI_1]
    have hns := tw_ns01 (pg k) (hv.2 k hkN).1 (fun j => (tw_dn pg T y x k dy j).1) (tw_dn pg T y x k dy k).2.1 (tw_dn pg T y x k dy k).2.2 T y x
    refine ih (k + 1) mi' (by omega) ⟨h60, by rw [q1 t (by omega)]; exact hC.2.1, fun j hj => ?_⟩ (fun mi2 r1 r2 => hQ mi2 r1 (fun a ha => by rw [r2 a ha, q1 a (by omega)]))
    simp only [tw_dn]
    by_cases hjk : j = k
    · subst hjk
      obtain ⟨n0, n1, n2, n3, n4, n5, n6, n7, n01⟩ := hC.2.2 j hj
      rw [tw_st_s]
      exact ⟨by rw [q2 0 (by omega)]; exact n0, by rw [q2 1 (by omega)]; exact n1, by rw [q2 2 (by omega)]; exact n2, by rw [q2 3 (by omega)]; exact n3, by rw [q2 4 (by omega)]; exact n4, q5, q6, q7, hns⟩
    · rw [tw_st_n _ _ hjk, q1 (t + 2 + j) (by omega)]
      exact hC.2.2 j hj
set_option maxRecDepth 100000 in
theorem tw_p_step (ht : t = 1 ∨ t = 63) (t' : Nat) (hv : tw_pv N pg) (hN : 1 ≤ N) {y x : Int32} (hy : T = 0 ∧ y = -1 ∨ 0 < T ∧ ¬ y < 0) (hC : tw_Cn mi t N pg dy)
    (hQ : ∀ mi', tw_Cn mi' t N pg (tw_dn pg T y x N dy) → (∀ a, a < t + 2 ∨ t + 2 + N ≤ a → mi' a = mi a) → Q (some (.int (tw_dn pg T y x N dy (N - 1)).1)) tw_g0 mi' (tw_r0 t' s i)) :
    tw_E sc (d + 4) 41 0 [some (.ref t), some (.int (nI T)), some (.int y), some (.int x), none] [] tw_g0 mi (tw_r0 t' s i) Q := by
  simp only [tz_41_0, tz_41_1, tz_41_5, tz_41_6, tz_41_9, tz_41_12, tz_41_13, tz_41_14, tz_41_17, tz_41_19, tz_41_20, tz_41_21, tz_41_22, tz_41_23, tz_41_26, tz_41_29, tz_41_32, tz_41_33, tz_41_34, tz_41_37, tz_41_38, tz_41_39, tz_41_42]
  exact tw_p_stepl ht t' hv hN hy N 0 mi (by omega) hC hQ
set_option maxRecDepth 100000 in
theorem tw_p_before (hC : tw_Ch mi T sm hd) (S : tw_Hs) (hS : S.1 = T ∧ S.2.1 = sm) (t : Nat) : tw_E sc (d + 1) 95 0 [some (.ref 128), some (.int (nI T - 1))] [] tw_g0 mi (tw_r0 t s i) Q = Q (some (.int (tw_yy S))) tw_g0 mi (tw_r0 t s i) := by
  obtain ⟨h1, h2⟩ := hS
  unfold tw_yy
  rw [h1, h2]
  cases T with
  | zero =>
    have e : nI 0 - 1 = (-1 : Int32) := by decide
    have c1 : (-1 : Int32) < 0 := by decide
    simp only [tz_95_0, tz_95_1, tz_95_2, tz_95_5, tz_95_8, tz_95_9, tz_95_12, tz_95_13, tz_95_14, tz_95_17, tz_95_18, tz_94_0, tz_94_1, tz_94_4, tz_94_5, tz_94_6, tz_94_9, tz_94_12, tz_94_13, tz_94_16, tz_94_17, tk_128, tq_128_0, tq_128_1, tw_va_s, tw_va_n, tw_K_s, tw_K_n, and_true, true_and, and_false, false_and, true_or, or_true, not_true_eq_false, not_false_eq_true, ↓reduceIte, Nat.reduceEqDiff, e, c1]
  | succ T =>
    rw [nI_pred, tw_p_sampleAt hC (by omega)]
    simp
set_option maxRecDepth 100000 in
theorem tw_p_takel (ht : t = 1 ∨ t = 63) (hv : tw_pv N pg) (hN : 1 ≤ N) {x : Int32} (hx : tw_16 x) (n : Nat) (hn : n < 2 ^ 30) (x5 x6 : Option Value) : ∀ f k (h : Int32) (S : tw_Hs) (mi : tw_I) (x5 x6 : Option Value), n = k + f → tw_CS mi t N pg S → tw_Sv S → S.1 + f ≤ 4000 →
    (∀ mi', tw_CS mi' t N pg (tw_mn pg N x f S h).1 → tw_Sv (tw_mn pg N x f S h).1 → (∀ a, (a < t + 2 ∨ t + 2 + N ≤ a) → a ≠ 128 → a ≠ 129 → a ≠ 130 → mi' a = mi a) → Q (some (.int (tw_mn pg N x f S h).2)) tw_g0 mi' (tw_r0 t s i)) →
    tw_E sc (d + 5) 28 5 [some (.ref 0), some (.int x), some (.int (nI n)), some (.int h), some (.int (nI k)), x5, x6] [] tw_g0 mi (tw_r0 t s i) Q := by
  intro f
  induction f with
  | zero =>
    intro k h S mi x5 x6 hk hC hS hT hQ
    obtain rfl : k = n := by omega
    rw [tz_28_5]
    simp only [tz_28_0, tz_28_1, tz_28_2, tz_28_3, tz_28_7, tz_28_8, tz_28_11, tz_28_12, tz_28_15, tz_28_18, tz_28_20, tz_28_21, tz_28_24, tz_28_26, tz_28_27, tz_28_30, tz_28_32, tz_28_33, tz_28_34, tz_28_37, tz_28_38, tz_28_41, tz_28_43, tz_28_44, tz_28_47, tz_28_48, tz_28_50, tz_28_53, tz_28_55, tz_28_58, tz_28_61, tz_28_64, tz_28_67, tz_28_68, tw_mn]
    rw [tw_le_t (by omega) (by omega)]
    exact hQ mi hC hS (fun _ _ _ _ _ => rfl)
  | succ f ih =>
    intro k h S mi x5 x6 hk hC hS hT hQ
    obtain ⟨hCh, hCn⟩ := hC
    have hy : S.1 = 0 ∧ tw_yy S = -1 ∨ 0 < S.1 ∧ ¬ tw_yy S < 0 := by
      unfold tw_yy
      by_cases h0 : S.1 = 0
      · exact Or.inl ⟨h0, by rw [if_pos h0]⟩
      · rw [if_neg h0]
        exact Or.inr ⟨by omega, tw_16_nn (hS.2.1 (S.1 - 1) (by omega))⟩
    rw [tz_28_5]
    simp only [tz_28_0, tz_28_1, tz_28_2, tz_28_3, tz_28_7, tz_28_8, tz_28_11, tz_28_12, tz_28_15, tz_28_18, tz_28_20, tz_28_21, tz_28_24, tz_28_26, tz_28_27, tz_28_30, tz_28_32, tz_28_33, tz_28_34, tz_28_37, tz_28_38, tz_28_41, tz_28_43, tz_28_44, tz_28_47, tz_28_48, tz_28_50, tz_28_53, tz_28_55, tz_28_58, tz_28_61, tz_28_64, tz_28_67, tz_28_68, tz_90_0, tz_90_1, tz_90_4, tk_0, tq_0_0, tq_0_1, tq_0_2, tq_0_3, tq_0_4, tq_0_5, tq_0_6, tq_t, tq_s, tk_128, tq_128_0, tq_128_1, tw_va_s, tw_va_n, tw_K_s, tw_K_n, and_true, true_and, and_false, false_and, true_or, or_true, not_true_eq_false, not_false_eq_true, ↓reduceIte, Nat.reduceEqDiff, hCh.2.1, tw_p_before hCh S ⟨rfl, rfl⟩ t, tw_tk ht]
    rw [tw_le_f (by omega) (by omega)]
    refine tw_p_step ht t hv hN hy hCn (fun mi' q1 q2 => ?_)
    have hr : (tw_dn pg S.1 (tw_yy S) x N S.2.2.2 (N - 1)).1 = tw_cr pg N x S := rfl
    have hr01 : tw_cr pg N x S = 0 ∨ tw_cr pg N x S = 1 := by
      have := (q1.2.2 (N - 1) (by omega)).2.2.2.2.2.2.2.2
      exact this
    have h60 := hv.1
    have b1 : mi' 128 = mi 128 := q2 128 (by omega)
    have b2 : mi' 129 = mi 129 := q2 129 (by omega)
    have b3 : mi' 130 = mi 130 := q2 130 (by omega)
    rw [hr]
    have h3 : ¬ (4000 : Int32) - nI S.1 < 1 := by
      rw [show (4000 : Int32) - nI S.1 = nI (4000 - S.1) from pk_sub (a := 4000) (by omega)]
      exact nI_nlt (b := 1) (by omega) (by omega)
    have h3' : (1 : Int32) ≤ 4000 - nI S.1 := Int32.not_lt.mp h3
    have hst : ∀ mi3 : tw_I, mi3 = tw_st (tw_st (tw_st mi' 129 (tw_st (mi 129) S.1 x)) 130 (tw_st (mi 130) S.1 (tw_cr pg N x S))) 128 (tw_st (tw_st (mi 128) 2 (nI (S.1 + 1))) 3 (mi 128 3 + (if tw_cr pg N x S = 0 then 0 else 1))) → tw_CS mi3 t N pg (tw_cm pg N x S) ∧ tw_Sv (tw_cm pg N x S) ∧ ∀ a, (a < t + 2 ∨ t + 2 + N ≤ a) → a ≠ 128 → a ≠ 129 → a ≠ 130 → mi3 a = mi a := by
      intro mi3 e3
      have ht2 : t + 2 + N ≤ 128 := by omega
      refine ⟨⟨⟨by show S.1 + 1 ≤ 4000; omega, ?_, ?_, fun j hj => ?_, fun j hj => ?_⟩, q1.1, ?_, fun j hj => ?_⟩, ⟨by show S.1 + 1 ≤ 4000; omega, fun j hj => ?_, fun j hj => ?_⟩, fun a h1 h2 h3 h4 => ?_⟩
      · rw [e3]; simp [tw_st_ap, tw_cm]
      · rw [e3]
        simp only [tw_st_ap, ↓reduceIte, Nat.reduceEqDiff, hCh.2.2.1, tw_cm]
        show _ = nI (tw_cn (tw_st S.2.2.1 S.1 (tw_cr pg N x S)) (S.1 + 1))
        simp only [tw_cn, tw_cn_st _ _ _ _ (Nat.le_refl _), tw_st_s]
        rcases hr01 with q | q
        · simp [q]
        · simp [q, nI_1]
      · rw [e3]
        simp only [tw_st_ap, ↓reduceIte, Nat.reduceEqDiff, tw_cm]
        by_cases hj2 : j = S.1
        · rw [if_pos hj2, if_pos hj2]
        · rw [if_neg hj2, if_neg hj2]
          have hj3 : j < S.1 + 1 := hj
          exact hCh.2.2.2.1 j (by omega)
      · rw [e3]
        simp only [tw_st_ap, ↓reduceIte, Nat.reduceEqDiff, tw_cm]
        by_cases hj2 : j = S.1
        · rw [if_pos hj2, if_pos hj2]
        · rw [if_neg hj2, if_neg hj2]
          have hj3 : j < S.1 + 1 := hj
          exact hCh.2.2.2.2 j (by omega)
      · rw [e3, tw_st_n _ _ (by omega), tw_st_n _ _ (by omega), tw_st_n _ _ (by omega)]
        exact q1.2.1
      · rw [e3, tw_st_n _ _ (by omega), tw_st_n _ _ (by omega), tw_st_n _ _ (by omega)]
        exact q1.2.2 j hj
      · have hj3 : j < S.1 + 1 := hj
        show tw_16 (tw_st S.2.1 S.1 x j)
        by_cases hj2 : j = S.1
        · rw [hj2, tw_st_s]; exact hx
        · rw [tw_st_n _ _ hj2]; exact hS.2.1 j (by omega)
      · have hj3 : j < S.1 + 1 := hj
        show tw_st S.2.2.1 S.1 (tw_cr pg N x S) j = 0 ∨ tw_st S.2.2.1 S.1 (tw_cr pg N x S) j = 1
        by_cases hj2 : j = S.1
        · rw [hj2, tw_st_s]; exact hr01
        · rw [tw_st_n _ _ hj2]; exact hS.2.2 j (by omega)
      · rw [e3, tw_st_n _ _ h2, tw_st_n _ _ h4, tw_st_n _ _ h3]
        exact q2 a h1
    have go : ∀ h', h' = h + tw_cr pg N x S → ∀ mi3 : tw_I, mi3 = tw_st (tw_st (tw_st mi' 129 (tw_st (mi 129) S.1 x)) 130 (tw_st (mi 130) S.1 (tw_cr pg N x S))) 128 (tw_st (tw_st (mi 128) 2 (nI (S.1 + 1))) 3 (mi 128 3 + (if tw_cr pg N x S = 0 then 0 else 1))) → tw_E sc (d + 5) 28 5 [some (.ref 0), some (.int x), some (.int (nI n)), some (.int h'), some (.int (nI (k + 1))), some (.int (nI S.1)), some (.int (tw_cr pg N x S))] [] tw_g0 mi3 (tw_r0 t s i) Q := by
      intro h' e' mi3 e3
      obtain ⟨z1, z2, z3⟩ := hst mi3 e3
      subst e'
      exact ih (k + 1) _ (tw_cm pg N x S) mi3 _ _ (by omega) z1 z2 (by show S.1 + 1 + f ≤ 4000; omega) (fun mi4 w1 w2 w3 => hQ mi4 w1 w2 (fun a g1 g2 g3 g4 => by rw [w3 a g1 g2 g3 g4, z3 a g1 g2 g3 g4]))
    simp only [tz_28_0, tz_28_1, tz_28_2, tz_28_3, tz_28_7, tz_28_8, tz_28_11, tz_28_12, tz_28_15, tz_28_18, tz_28_20, tz_28_21, tz_28_24, tz_28_26, tz_28_27, tz_28_30, tz_28_32, tz_28_33, tz_28_34, tz_28_37, tz_28_38, tz_28_41, tz_28_43, tz_28_44, tz_28_47, tz_28_48, tz_28_50, tz_28_53, tz_28_55, tz_28_58, tz_28_61, tz_28_64, tz_28_67, tz_28_68, tz_93_0, tz_93_1, tz_93_2, tz_93_5, tz_93_8, tz_93_9, tz_93_12, tz_93_13, tz_93_16, tz_93_17, tz_93_18, tz_93_19, tz_93_22, tz_93_23, tz_93_26, tz_93_27, tz_93_28, tz_93_29, tz_93_30, tz_93_33, tz_93_34, tz_93_35, tz_93_38, tz_93_39, tz_93_40, tz_93_43, tz_93_44, tz_93_47, tz_93_48, tz_93_51, tz_93_52, tz_93_53, tz_93_56, tz_92_0, tz_92_1, tz_92_4, tz_92_5, tz_92_8, tz_92_9, tz_92_12, tz_92_13, tz_92_16, tz_92_17, tk_0, tq_0_0, tq_0_1, tq_0_2, tq_0_3, tq_0_4, tq_0_5, tq_0_6, tq_t, tq_s, tk_128, tq_128_0, tq_128_1, tk_129, tj_129, tk_130, tj_130, tw_va_s, tw_va_n, tw_K_s, tw_K_n, and_true, true_and, and_false, false_and, true_or, or_true, not_true_eq_false, not_false_eq_true, ↓reduceIte, Nat.reduceEqDiff, b1, b2, b3, hCh.2.1, h3', tw_st_ap, Nat.reduceEqDiff, ↓reduceIte, nI_clamp (show S.1 < 2 ^ 31 by omega), vp_in_nI (show S.1 < 4000 by omega) (by omega), hr01, nI_1, tw_st_st, h3, show ¬ (1 : Int32) = 0 by decide]
    by_cases q : tw_cr pg N x S = 0
    · rw [if_pos q, if_pos q]
      exact go h (by rw [q, Int32.add_zero]) _ (by rw [if_pos q])
    · have q1' := hr01.resolve_left q
      rw [if_neg q, if_neg q]
      exact go (h + 1) (by rw [q1']) _ (by rw [if_neg q])
end tw_step
