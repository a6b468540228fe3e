/-! a node at a tick: the class's -/
/-- wire w of a sample -/
def tw_bt (x w : Int32) : Int32 := (x >>> (w &&& 31)) &&& 1
set_option maxRecDepth 100000 in
theorem tw_st_st {α : Type} (f : Nat → α) (a : Nat) (r r' : α) : tw_st (tw_st f a r) a r' = tw_st f a r' := by
  funext b
  by_cases h : b = a <;> simp [tw_st, h]
set_option maxRecDepth 100000 in
theorem tw_and1 (z : Int32) : z &&& 1 = 0 ∨ z &&& 1 = 1 := by
  have h : (z &&& 1) = nI (z.toBitVec.toNat % 2) := pk_and z 1 rfl
  rw [h]
  have : z.toBitVec.toNat % 2 < 2 := Nat.mod_lt _ (by decide)
  rcases (show z.toBitVec.toNat % 2 = 0 ∨ z.toBitVec.toNat % 2 = 1 by omega) with q | q <;> rw [q]
  · exact Or.inl rfl
  · exact Or.inr rfl
set_option maxRecDepth 100000 in
theorem tw_bt01 (x w : Int32) : tw_bt x w = 0 ∨ tw_bt x w = 1 := tw_and1 _
abbrev tw_Nd : Type := Nat × Int32 × Int32 × Int32 × Int32
abbrev tw_Dy : Type := Nat → Int32 × Int32 × Int32
/-- an armed node goes on: whether it holds, and from when it waits -/
def tw_am (td : Prop) [Decidable td] (lo hi si o1 o2 tk : Int32) : Int32 × Int32 :=
  let s1 := if td ∧ si ≠ -9 ∧ hi < tk - si then -9 else si
  if s1 = -9 then (0, if o1 = 0 then -9 else tk) else if o2 ≠ 0 ∧ (¬ td ∨ lo ≤ tk - s1) then (1, -9) else (0, s1)
/-- a node of kind, parts and numbers n, at tick tk, samples y ahead (if any) and x: whether it holds, how often its part held, from when it waits -/
def tw_ns (n : tw_Nd) (on : Nat → Int32) (of si : Int32) (T : Nat) (y x : Int32) : Int32 × Int32 × Int32 :=
  match n.1 with
  | 0 => (if tw_bt x n.2.1 = 1 then 1 else 0, of, si)
  | 1 => (if 0 < T ∧ ¬ tw_bt y n.2.1 = tw_bt x n.2.1 ∧ (n.2.2.1 = 2 ∨ n.2.2.1 = tw_bt y n.2.1) then 1 else 0, of, si)
  | 2 => (if on n.2.1.toNatClampNeg = 0 then 1 else 0, of, si)
  | 3 => (if on n.2.1.toNatClampNeg ≠ 0 ∧ on n.2.2.1.toNatClampNeg ≠ 0 then 1 else 0, of, si)
  | 4 => (if on n.2.1.toNatClampNeg ≠ 0 ∨ on n.2.2.1.toNatClampNeg ≠ 0 then 1 else 0, of, si)
  | 5 => (if on n.2.1.toNatClampNeg ≠ 0 ∧ (of + 1) - (of + 1) / n.2.2.2.1 * n.2.2.2.1 = 0 then 1 else 0, if on n.2.1.toNatClampNeg = 0 then of else of + 1, si)
  | 6 => ((tw_am False n.2.2.2.1 n.2.2.2.2 si (on n.2.1.toNatClampNeg) (on n.2.2.1.toNatClampNeg) (nI T)).1, of, (tw_am False n.2.2.2.1 n.2.2.2.2 si (on n.2.1.toNatClampNeg) (on n.2.2.1.toNatClampNeg) (nI T)).2)
  | _ => ((tw_am True n.2.2.2.1 n.2.2.2.2 si (on n.2.1.toNatClampNeg) (on n.2.2.1.toNatClampNeg) (nI T)).1, of, (tw_am True n.2.2.2.1 n.2.2.2.2 si (on n.2.1.toNatClampNeg) (on n.2.2.1.toNatClampNeg) (nI T)).2)
/-- a node that stands at place k of its text -/
def tw_ok (k : Nat) (n : tw_Nd) : Prop :=
  n.1 ≤ 7 ∧ (n.1 ≤ 1 → ∃ w, w < 16 ∧ n.2.1 = nI w) ∧ (n.1 = 1 → n.2.2.1 = 0 ∨ n.2.2.1 = 1 ∨ n.2.2.1 = 2) ∧ (2 ≤ n.1 → ∃ j, j < k ∧ n.2.1 = nI j) ∧ (n.1 = 3 ∨ n.1 = 4 ∨ n.1 = 6 ∨ n.1 = 7 → ∃ j, j < k ∧ n.2.2.1 = nI j) ∧ (n.1 = 5 → ∃ c, 1 ≤ c ∧ c < 1000 ∧ n.2.2.2.1 = nI c)
/-- the class's nodes -/
def tw_Cn (mi : tw_I) (t N : Nat) (pg : Nat → tw_Nd) (dy : tw_Dy) : Prop := N ≤ 60 ∧ mi t 1 = nI N ∧ ∀ k, k < N → mi (t + 2 + k) 0 = nI (pg k).1 ∧ mi (t + 2 + k) 1 = (pg k).2.1 ∧ mi (t + 2 + k) 2 = (pg k).2.2.1 ∧ mi (t + 2 + k) 3 = (pg k).2.2.2.1 ∧ mi (t + 2 + k) 4 = (pg k).2.2.2.2 ∧ mi (t + 2 + k) 5 = (dy k).1 ∧ mi (t + 2 + k) 6 = (dy k).2.1 ∧ mi (t + 2 + k) 7 = (dy k).2.2 ∧ ((dy k).1 = 0 ∨ (dy k).1 = 1)
set_option maxRecDepth 100000 in
theorem tw_swn {n : Nat} (hn : n ≤ 7) (z : Nat) : tw_sw (nI n) 2 [44, 59, 59, 82, 97, 97] 121 = (match n with | 2 => 44 | 3 => 59 | 4 => 59 | 5 => 82 | 6 => 97 | 7 => 97 | _ => 121) := by
  rcases (show n = 0 ∨ n = 1 ∨ n = 2 ∨ n = 3 ∨ n = 4 ∨ n = 5 ∨ n = 6 ∨ n = 7 by omega) with rfl | rfl | rfl | rfl | rfl | rfl | rfl | rfl <;> rfl
section tw_node
variable {sc : Nat × (Nat → Int32)} {d t s i N k T : Nat} {mi : tw_I} {Q : Option Value → tw_G → tw_I → tw_Q → Prop} {pg : Nat → tw_Nd} {dy : tw_Dy}
set_option maxRecDepth 100000 in
theorem tw_p_isOn (ht : t = 1 ∨ t = 63) (t' : Nat) (hN : N ≤ 60) (h1 : mi t 1 = nI N) {j : Nat} (hj : j < N) (h01 : mi (t + 2 + j) 5 = 0 ∨ mi (t + 2 + j) 5 = 1) : tw_E sc (d + 1) 43 0 [some (.ref t), some (.int (nI j)), none] [] tw_g0 mi (tw_r0 t' s i) Q = Q (some (.int (if mi (t + 2 + j) 5 = 0 then 0 else 1))) tw_g0 mi (tw_r0 t' s i) := by
  have c1 : ¬ nI j < 0 := nI_pos (by omega)
  have c2 : ¬ nI N ≤ nI j := nI_ge hj (by omega)
  simp only [tz_43_0, tz_43_1, tz_43_2, tz_43_5, tz_43_5n, tz_43_6, tz_43_6n, tz_43_7, tz_43_7n, tz_43_10, tz_43_10n, tz_43_11, tz_43_14, tz_43_17, tz_43_18, tz_43_21, tz_43_22, tz_39_0, tz_39_1, tz_39_4, tz_39_5, tz_39_6, tz_39_9, tz_39_12, tz_39_13, tz_39_16, tz_39_17, tz_39_18, tz_39_21, tz_39_22, tz_39_22n, tz_47_0, tz_47_1, tz_47_4, tw_va_s, tw_va_n, tw_K_s, tw_K_n, and_true, true_and, and_false, false_and, true_or, or_true, not_true_eq_false, not_false_eq_true, ↓reduceIte, Nat.reduceEqDiff, tw_tk ht, h1, c1, c2, tw_tq ht, tw_tk1 ht, tw_tj1 ht, nI_clamp (show j < 2 ^ 31 by omega), tw_tq1 ht t' s i (show j < 60 by omega), tw_tk2 ht (show j < 60 by omega), vp_in_nI (show j < 60 by omega) (by omega), h01]
  by_cases h : mi (t + 2 + j) 5 = 0 <;> simp [h]
set_option maxRecDepth 100000 in
theorem tw_zz (c : Prop) [Decidable c] : ((if c then (1 : Int32) else 0) = 0 ∨ (if c then (1 : Int32) else 0) = 1) = True := by by_cases h : c <;> simp [h]
set_option maxRecDepth 100000 in
theorem tw_01 (c : Prop) [Decidable c] : ((if c then (0 : Int32) else 1) = 0) = c := by by_cases h : c <;> simp [h]
set_option maxRecDepth 100000 in
/-- one node of the class goes on -/
theorem tw_p_node (ht : t = 1 ∨ t = 63) (t' : Nat) (hC : tw_Cn mi t N pg dy) (hk : k < N) (hok : tw_ok k (pg k)) {y x : Int32} (hy : T = 0 ∧ y = -1 ∨ 0 < T ∧ ¬ y < 0)
    (hQ : ∀ mi', (∀ a, a ≠ t + 2 + k → mi' a = mi a) → (∀ j, j < 5 → mi' (t + 2 + k) j = mi (t + 2 + k) j) → mi' (t + 2 + k) 5 = (tw_ns (pg k) (fun j => (dy j).1) (dy k).2.1 (dy k).2.2 T y x).1 → mi' (t + 2 + k) 6 = (tw_ns (pg k) (fun j => (dy j).1) (dy k).2.1 (dy k).2.2 T y x).2.1 → mi' (t + 2 + k) 7 = (tw_ns (pg k) (fun j => (dy j).1) (dy k).2.1 (dy k).2.2 T y x).2.2 → Q none tw_g0 mi' (tw_r0 t' s i)) :
    tw_E sc (d + 3) 42 0 [some (.ref t), some (.ref (t + 2 + k)), some (.int (nI T)), some (.int y), some (.int x)] [] tw_g0 mi (tw_r0 t' s i) Q := by
  obtain ⟨hN, h1, hn⟩ := hC
  obtain ⟨n0, n1, n2, n3, n4, n5, n6, n7, n01⟩ := hn k hk
  obtain ⟨k7, kw, ke, kp, kq, kc⟩ := hok
  have hk2 := tw_tk2 ht (show k < 60 by omega)
  have ho : ∀ j, j < k → ∀ (d : Nat) (Q : Option Value → tw_G → tw_I → tw_Q → Prop), tw_E sc (d + 1) 43 0 [some (.ref t), some (.int (nI j)), none] [] tw_g0 mi (tw_r0 t' s i) Q = Q (some (.int (if (dy j).1 = 0 then 0 else 1))) tw_g0 mi (tw_r0 t' s i) := fun j hj d Q => by rw [tw_p_isOn ht t' hN h1 (show j < N by omega) (by rw [(hn j (by omega)).2.2.2.2.2.1]; exact (hn j (by omega)).2.2.2.2.2.2.2.2), (hn j (by omega)).2.2.2.2.2.1]
  generalize hnd : pg k = n at *
  obtain ⟨kd, a1, a2, lo, hi⟩ := n
  simp only at *
  have fr : ∀ (F : Nat → Int32) (a : Nat), a ≠ t + 2 + k → tw_st mi (t + 2 + k) F a = mi a := fun F a ha => by simp only [tw_st_ap, if_neg ha]
  have fin : ∀ F : Nat → Int32, (∀ j, j < 5 → F j = mi (t + 2 + k) j) → F 5 = (tw_ns (kd, a1, a2, lo, hi) (fun j => (dy j).1) (dy k).2.1 (dy k).2.2 T y x).1 → F 6 = (tw_ns (kd, a1, a2, lo, hi) (fun j => (dy j).1) (dy k).2.1 (dy k).2.2 T y x).2.1 → F 7 = (tw_ns (kd, a1, a2, lo, hi) (fun j => (dy j).1) (dy k).2.1 (dy k).2.2 T y x).2.2 → Q none tw_g0 (tw_st mi (t + 2 + k) F) (tw_r0 t' s i) := fun F f0 f5 f6 f7 => hQ _ (fr F) (fun j hj => by rw [tw_st_s]; exact f0 j hj) (by rw [tw_st_s]; exact f5) (by rw [tw_st_s]; exact f6) (by rw [tw_st_s]; exact f7)
  rw [tz_42_0, tz_42_1]
  refine ⟨hk2, ?_⟩
  rw [n0, tz_42_4, tw_swn k7 0]
  rcases (show kd = 0 ∨ kd = 1 ∨ kd = 2 ∨ kd = 3 ∨ kd = 4 ∨ kd = 5 ∨ kd = 6 ∨ kd = 7 by omega) with rfl | rfl | rfl | rfl | rfl | rfl | rfl | rfl
  · have e0 : ¬ tw_bt x a1 = 1 ∨ tw_bt x a1 = 1 := (Decidable.em _).symm
    simp only [tz_42_0, tz_42_0n, tz_42_1, tz_42_4, tz_42_44, tz_42_44n, tz_42_45, tz_42_46, tz_42_46n, tz_42_47, tz_42_50, tz_42_53, tz_42_56, tz_42_59, tz_42_59n, tz_42_60, tz_42_61, tz_42_61n, tz_42_62, tz_42_65, tz_42_68, tz_42_69, tz_42_69n, tz_42_70, tz_42_73, tz_42_76, tz_42_79, tz_42_82, tz_42_82n, tz_42_83, tz_42_84, tz_42_84n, tz_42_85, tz_42_88, tz_42_91, tz_42_94, tz_42_97, tz_42_97n, tz_42_98, tz_42_99, tz_42_100, tz_42_100n, tz_42_101, tz_42_104, tz_42_107, tz_42_108, tz_42_108n, tz_42_109, tz_42_112, tz_42_115, tz_42_118, tz_42_121, tz_42_121n, tz_42_122, tz_42_123, tz_42_125, tz_42_128, tz_51_0, tz_51_1, tz_51_2, tz_51_5, tz_51_8, tz_51_9, tz_51_12, tz_51_13, tz_51_16, tz_51_17, tz_51_18, tz_51_19, tz_51_22, tz_51_25, tz_51_26, tz_51_27, tz_51_30, tz_51_33, tz_51_34, tz_51_35, tz_51_38, tz_51_39, tz_51_40, tz_51_41, tz_51_44, tz_51_47, tz_51_48, tz_51_51, tz_51_52, tz_51_55, tz_51_56, tz_51_57, tz_51_60, tz_51_63, tz_51_64, tz_51_67, tz_51_68, tz_51_71, tz_31_0, tz_31_1, tz_31_2, tz_31_3, tz_31_4, tz_31_5, tw_va_s, tw_va_n, tw_K_s, tw_K_n, and_true, true_and, and_false, false_and, true_or, or_true, not_true_eq_false, not_false_eq_true, ↓reduceIte, Nat.reduceEqDiff, hk2, n0, n1, nI_0, tw_zz]
    rw [show x >>> (a1 &&& 31) &&& 1 = tw_bt x a1 from rfl]
    by_cases hb : tw_bt x a1 = 1
    · simp only [hb, not_true_eq_false, ↓reduceIte]
      exact fin _ (fun j hj => by simp only [tw_st_ap]; rw [if_neg (by omega)]) (by simp [tw_st_ap, tw_ns, hb]) (by simp [tw_st_ap, tw_ns, n6]) (by simp [tw_st_ap, tw_ns, n7])
    · simp only [hb, not_false_eq_true, ↓reduceIte]
      exact fin _ (fun j hj => by simp only [tw_st_ap]; rw [if_neg (by omega)]) (by simp [tw_st_ap, tw_ns, hb]) (by simp [tw_st_ap, tw_ns, n6]) (by simp [tw_st_ap, tw_ns, n7])
  · simp only [tz_42_0, tz_42_0n, tz_42_1, tz_42_4, tz_42_44, tz_42_44n, tz_42_45, tz_42_46, tz_42_46n, tz_42_47, tz_42_50, tz_42_53, tz_42_56, tz_42_59, tz_42_59n, tz_42_60, tz_42_61, tz_42_61n, tz_42_62, tz_42_65, tz_42_68, tz_42_69, tz_42_69n, tz_42_70, tz_42_73, tz_42_76, tz_42_79, tz_42_82, tz_42_82n, tz_42_83, tz_42_84, tz_42_84n, tz_42_85, tz_42_88, tz_42_91, tz_42_94, tz_42_97, tz_42_97n, tz_42_98, tz_42_99, tz_42_100, tz_42_100n, tz_42_101, tz_42_104, tz_42_107, tz_42_108, tz_42_108n, tz_42_109, tz_42_112, tz_42_115, tz_42_118, tz_42_121, tz_42_121n, tz_42_122, tz_42_123, tz_42_125, tz_42_128, tz_51_0, tz_51_1, tz_51_2, tz_51_5, tz_51_8, tz_51_9, tz_51_12, tz_51_13, tz_51_16, tz_51_17, tz_51_18, tz_51_19, tz_51_22, tz_51_25, tz_51_26, tz_51_27, tz_51_30, tz_51_33, tz_51_34, tz_51_35, tz_51_38, tz_51_39, tz_51_40, tz_51_41, tz_51_44, tz_51_47, tz_51_48, tz_51_51, tz_51_52, tz_51_55, tz_51_56, tz_51_57, tz_51_60, tz_51_63, tz_51_64, tz_51_67, tz_51_68, tz_51_71, tz_31_0, tz_31_1, tz_31_2, tz_31_3, tz_31_4, tz_31_5, tz_57_0, tz_57_1, tz_57_4, tz_57_32, tz_57_33, tz_57_36, tz_57_37, tz_57_40, tz_57_41, tz_57_44, tz_57_45, tz_57_46, tz_57_47, tz_57_50, tz_57_51, tz_57_54, tz_57_55, tz_57_58, tz_57_59, tz_57_60, tz_57_61, tz_57_62, tz_57_65, tz_57_66, tz_57_69, tz_57_70, tw_va_s, tw_va_n, tw_K_s, tw_K_n, and_true, true_and, and_false, false_and, true_or, or_true, not_true_eq_false, not_false_eq_true, ↓reduceIte, Nat.reduceEqDiff, hk2, n0, n1, n2, show ¬ nI 1 = 0 by decide]
    rw [show x >>> (a1 &&& 31) &&& 1 = tw_bt x a1 from rfl, show y >>> (a1 &&& 31) &&& 1 = tw_bt y a1 from rfl]
    rcases hy with ⟨rfl, rfl⟩ | ⟨hT, hy⟩
    · simp only [show (-1 : Int32) < 0 by decide, ↓reduceIte, ite_self]
      exact fin _ (fun j hj => by simp only [tw_st_ap]; rw [if_neg (by omega)]) (by simp [tw_st_ap, tw_ns]) (by simp [tw_st_ap, tw_ns, n6]) (by simp [tw_st_ap, tw_ns, n7])
    · have hx01 := tw_bt01 x a1
      have hy01 := tw_bt01 y a1
      have ha2 := ke rfl
      simp only [hy, ↓reduceIte]
      rcases hx01 with hx | hx <;> rcases hy01 with hyb | hyb <;> rcases ha2 with ha | ha | ha <;> subst ha <;> simp only [hx, hyb, show ¬ (0 : Int32) = 1 by decide, show ¬ (1 : Int32) = 0 by decide, show ¬ (2 : Int32) = 0 by decide, show ¬ (2 : Int32) = 1 by decide, not_true_eq_false, not_false_eq_true, ↓reduceIte, true_or, or_true, true_and]
      all_goals exact fin _ (fun j hj => by simp only [tw_st_ap]; rw [if_neg (by omega)]) (by simp [tw_st_ap, tw_ns, hx, hyb, hT]) (by simp [tw_st_ap, tw_ns, n6]) (by simp [tw_st_ap, tw_ns, n7])
  · obtain ⟨j1, hj1, rfl⟩ := kp (by omega)
    have c1 := nI_clamp (show j1 < 2 ^ 31 by omega)
    simp only [tz_42_0, tz_42_0n, tz_42_1, tz_42_4, tz_42_44, tz_42_44n, tz_42_45, tz_42_46, tz_42_46n, tz_42_47, tz_42_50, tz_42_53, tz_42_56, tz_42_59, tz_42_59n, tz_42_60, tz_42_61, tz_42_61n, tz_42_62, tz_42_65, tz_42_68, tz_42_69, tz_42_69n, tz_42_70, tz_42_73, tz_42_76, tz_42_79, tz_42_82, tz_42_82n, tz_42_83, tz_42_84, tz_42_84n, tz_42_85, tz_42_88, tz_42_91, tz_42_94, tz_42_97, tz_42_97n, tz_42_98, tz_42_99, tz_42_100, tz_42_100n, tz_42_101, tz_42_104, tz_42_107, tz_42_108, tz_42_108n, tz_42_109, tz_42_112, tz_42_115, tz_42_118, tz_42_121, tz_42_121n, tz_42_122, tz_42_123, tz_42_125, tz_42_128, tz_53_0, tz_53_1, tz_53_2, tz_53_5, tz_53_6, tz_53_9, tz_53_10, tz_53_13, tw_tk ht, ho j1 hj1, tw_va_s, tw_va_n, tw_K_s, tw_K_n, and_true, true_and, and_false, false_and, true_or, or_true, not_true_eq_false, not_false_eq_true, ↓reduceIte, Nat.reduceEqDiff, hk2, n1]
    by_cases h0 : (dy j1).1 = 0
    · simp only [h0, ↓reduceIte, not_true_eq_false, true_or, or_true, true_and]
      exact fin _ (fun j hj => by simp only [tw_st_ap]; rw [if_neg (by omega)]) (by simp [tw_st_ap, tw_ns, c1, h0]) (by simp [tw_st_ap, tw_ns, n6]) (by simp [tw_st_ap, tw_ns, n7])
    · simp only [h0, ↓reduceIte, show ¬ (1 : Int32) = 0 by decide, not_false_eq_true, true_or, or_true, true_and]
      exact fin _ (fun j hj => by simp only [tw_st_ap]; rw [if_neg (by omega)]) (by simp [tw_st_ap, tw_ns, c1, h0]) (by simp [tw_st_ap, tw_ns, n6]) (by simp [tw_st_ap, tw_ns, n7])
  · obtain ⟨j1, hj1, rfl⟩ := kp (by omega)
    obtain ⟨j2, hj2, rfl⟩ := kq (by omega)
    have c1 := nI_clamp (show j1 < 2 ^ 31 by omega)
    have c2 := nI_clamp (show j2 < 2 ^ 31 by omega)
    simp only [tz_42_0, tz_42_0n, tz_42_1, tz_42_4, tz_42_44, tz_42_44n, tz_42_45, tz_42_46, tz_42_46n, tz_42_47, tz_42_50, tz_42_53, tz_42_56, tz_42_59, tz_42_59n, tz_42_60, tz_42_61, tz_42_61n, tz_42_62, tz_42_65, tz_42_68, tz_42_69, tz_42_69n, tz_42_70, tz_42_73, tz_42_76, tz_42_79, tz_42_82, tz_42_82n, tz_42_83, tz_42_84, tz_42_84n, tz_42_85, tz_42_88, tz_42_91, tz_42_94, tz_42_97, tz_42_97n, tz_42_98, tz_42_99, tz_42_100, tz_42_100n, tz_42_101, tz_42_104, tz_42_107, tz_42_108, tz_42_108n, tz_42_109, tz_42_112, tz_42_115, tz_42_118, tz_42_121, tz_42_121n, tz_42_122, tz_42_123, tz_42_125, tz_42_128, tz_52_0, tz_52_1, tz_52_2, tz_52_5, tz_52_6, tz_52_9, tz_52_10, tz_52_13, tz_52_14, tz_52_17, tz_52_18, tz_52_21, tz_52_22, tz_52_25, tz_52_26, tz_52_29, tz_52_30, tz_52_33, tz_52_34, tz_52_37, tz_52_38, tz_52_41, tw_tk ht, ho j1 hj1, ho j2 hj2, tw_va_s, tw_va_n, tw_K_s, tw_K_n, and_true, true_and, and_false, false_and, true_or, or_true, not_true_eq_false, not_false_eq_true, ↓reduceIte, Nat.reduceEqDiff, hk2, n0, n1, n2, show nI 3 = 3 from rfl]
    by_cases h1 : (dy j1).1 = 0 <;> by_cases h2 : (dy j2).1 = 0 <;> simp only [h1, h2, ↓reduceIte, show ¬ (1 : Int32) = 0 by decide, not_true_eq_false, not_false_eq_true, true_or, or_true, true_and]
    all_goals exact fin _ (fun j hj => by simp only [tw_st_ap]; rw [if_neg (by omega)]) (by simp [tw_st_ap, tw_ns, c1, c2, h1, h2]) (by simp [tw_st_ap, tw_ns, n6]) (by simp [tw_st_ap, tw_ns, n7])
  · obtain ⟨j1, hj1, rfl⟩ := kp (by omega)
    obtain ⟨j2, hj2, rfl⟩ := kq (by omega)
    have c1 := nI_clamp (show j1 < 2 ^ 31 by omega)
    have c2 := nI_clamp (show j2 < 2 ^ 31 by omega)
    simp only [tz_42_0, tz_42_0n, tz_42_1, tz_42_4, tz_42_44, tz_42_44n, tz_42_45, tz_42_46, tz_42_46n, tz_42_47, tz_42_50, tz_42_53, tz_42_56, tz_42_59, tz_42_59n, tz_42_60, tz_42_61, tz_42_61n, tz_42_62, tz_42_65, tz_42_68, tz_42_69, tz_42_69n, tz_42_70, tz_42_73, tz_42_76, tz_42_79, tz_42_82, tz_42_82n, tz_42_83, tz_42_84, tz_42_84n, tz_42_85, tz_42_88, tz_42_91, tz_42_94, tz_42_97, tz_42_97n, tz_42_98, tz_42_99, tz_42_100, tz_42_100n, tz_42_101, tz_42_104, tz_42_107, tz_42_108, tz_42_108n, tz_42_109, tz_42_112, tz_42_115, tz_42_118, tz_42_121, tz_42_121n, tz_42_122, tz_42_123, tz_42_125, tz_42_128, tz_52_0, tz_52_1, tz_52_2, tz_52_5, tz_52_6, tz_52_9, tz_52_10, tz_52_13, tz_52_14, tz_52_17, tz_52_18, tz_52_21, tz_52_22, tz_52_25, tz_52_26, tz_52_29, tz_52_30, tz_52_33, tz_52_34, tz_52_37, tz_52_38, tz_52_41, tw_tk ht, ho j1 hj1, ho j2 hj2, tw_va_s, tw_va_n, tw_K_s, tw_K_n, and_true, true_and, and_false, false_and, true_or, or_true, not_true_eq_false, not_false_eq_true, ↓reduceIte, Nat.reduceEqDiff, hk2, n0, n1, n2, show ¬ nI 4 = 3 by decide]
    by_cases h1 : (dy j1).1 = 0 <;> by_cases h2 : (dy j2).1 = 0 <;> simp only [h1, h2, ↓reduceIte, show ¬ (1 : Int32) = 0 by decide, not_true_eq_false, not_false_eq_true, true_or, or_true, true_and]
    all_goals exact fin _ (fun j hj => by simp only [tw_st_ap]; rw [if_neg (by omega)]) (by simp [tw_st_ap, tw_ns, c1, c2, h1, h2]) (by simp [tw_st_ap, tw_ns, n6]) (by simp [tw_st_ap, tw_ns, n7])
  · obtain ⟨j1, hj1, rfl⟩ := kp (by omega)
    obtain ⟨cc, hc1, hc2, rfl⟩ := kc rfl
    have c1 := nI_clamp (show j1 < 2 ^ 31 by omega)
    have l0 : ¬ nI cc ≤ 0 := nI_nle (by omega) (by omega)
    have l1 : ¬ nI cc = 0 := nI_ne0 (by omega) (by omega)
    simp only [tz_42_0, tz_42_0n, tz_42_1, tz_42_4, tz_42_44, tz_42_44n, tz_42_45, tz_42_46, tz_42_46n, tz_42_47, tz_42_50, tz_42_53, tz_42_56, tz_42_59, tz_42_59n, tz_42_60, tz_42_61, tz_42_61n, tz_42_62, tz_42_65, tz_42_68, tz_42_69, tz_42_69n, tz_42_70, tz_42_73, tz_42_76, tz_42_79, tz_42_82, tz_42_82n, tz_42_83, tz_42_84, tz_42_84n, tz_42_85, tz_42_88, tz_42_91, tz_42_94, tz_42_97, tz_42_97n, tz_42_98, tz_42_99, tz_42_100, tz_42_100n, tz_42_101, tz_42_104, tz_42_107, tz_42_108, tz_42_108n, tz_42_109, tz_42_112, tz_42_115, tz_42_118, tz_42_121, tz_42_121n, tz_42_122, tz_42_123, tz_42_125, tz_42_128, tz_54_0, tz_54_1, tz_54_4, tz_54_5, tz_54_6, tz_54_9, tz_54_10, tz_54_11, tz_54_14, tz_54_15, tz_54_16, tz_54_19, tz_54_20, tz_54_23, tz_54_26, tz_54_27, tz_54_30, tz_54_31, tz_54_34, tz_54_35, tz_54_38, tz_54_39, tz_54_42, tz_54_43, tz_54_46, tw_tk ht, ho j1 hj1, tw_va_s, tw_va_n, tw_K_s, tw_K_n, and_true, true_and, and_false, false_and, true_or, or_true, not_true_eq_false, not_false_eq_true, ↓reduceIte, Nat.reduceEqDiff, hk2, n1, n3, n6, tw_st_ap, tw_st_st]
    by_cases h0 : (dy j1).1 = 0
    · simp only [h0, ↓reduceIte, true_or, or_true, true_and]
      exact fin _ (fun j hj => by simp only [tw_st_ap]; rw [if_neg (by omega)]) (by simp [tw_st_ap, tw_ns, c1, h0]) (by simp [tw_st_ap, tw_ns, n6, c1, h0]) (by simp [tw_st_ap, tw_ns, n7])
    · simp only [h0, l0, l1, ↓reduceIte, show ¬ (1 : Int32) = 0 by decide, not_true_eq_false, not_false_eq_true, true_or, or_true, true_and]
      by_cases hz : (dy k).2.1 + 1 - ((dy k).2.1 + 1) / nI cc * nI cc = 0
      · simp only [hz, not_true_eq_false, ↓reduceIte]
        exact fin _ (fun j hj => by simp only [tw_st_ap]; rw [if_neg (by omega), if_neg (by omega)]) (by simp [tw_st_ap, tw_ns, c1, h0, hz]) (by simp [tw_st_ap, tw_ns, n6, c1, h0]) (by simp [tw_st_ap, tw_ns, n7])
      · simp only [hz, not_false_eq_true, ↓reduceIte]
        exact fin _ (fun j hj => by simp only [tw_st_ap]; rw [if_neg (by omega), if_neg (by omega)]) (by simp [tw_st_ap, tw_ns, c1, h0, hz]) (by simp [tw_st_ap, tw_ns, n6, c1, h0]) (by simp [tw_st_ap, tw_ns, n7])
  · obtain ⟨j1, hj1, rfl⟩ := kp (by omega)
    obtain ⟨j2, hj2, rfl⟩ := kq (by omega)
    have c1 := nI_clamp (show j1 < 2 ^ 31 by omega)
    have c2 := nI_clamp (show j2 < 2 ^ 31 by omega)
    simp only [tz_42_0, tz_42_0n, tz_42_1, tz_42_4, tz_42_44, tz_42_44n, tz_42_45, tz_42_46, tz_42_46n, tz_42_47, tz_42_50, tz_42_53, tz_42_56, tz_42_59, tz_42_59n, tz_42_60, tz_42_61, tz_42_61n, tz_42_62, tz_42_65, tz_42_68, tz_42_69, tz_42_69n, tz_42_70, tz_42_73, tz_42_76, tz_42_79, tz_42_82, tz_42_82n, tz_42_83, tz_42_84, tz_42_84n, tz_42_85, tz_42_88, tz_42_91, tz_42_94, tz_42_97, tz_42_97n, tz_42_98, tz_42_99, tz_42_100, tz_42_100n, tz_42_101, tz_42_104, tz_42_107, tz_42_108, tz_42_108n, tz_42_109, tz_42_112, tz_42_115, tz_42_118, tz_42_121, tz_42_121n, tz_42_122, tz_42_123, tz_42_125, tz_42_128, tz_55_0, tz_55_1, tz_55_2, tz_55_5, tz_55_6, tz_55_9, tz_55_11, tz_55_14, tz_55_15, tz_55_18, tz_55_20, tz_55_23, tz_55_24, tz_55_25, tz_55_28, tz_55_29, tz_55_30, tz_55_33, tz_55_36, tz_55_37, tz_55_39, tz_55_42, tz_55_43, tz_55_46, tz_55_48, tz_55_51, tz_55_52, tz_55_53, tz_55_56, tz_55_57, tz_55_60, tz_55_62, tz_55_65, tz_55_68, tz_55_69, tz_55_72, tz_55_73, tz_55_76, tz_55_78, tz_55_81, tz_55_82, tz_55_83, tz_55_86, tz_55_87, tz_55_88, tz_55_91, tz_55_94, tz_55_95, tz_55_96, tz_55_99, tz_55_100, tz_55_102, tz_55_105, tw_tk ht, ho j1 hj1, ho j2 hj2, tw_va_s, tw_va_n, tw_K_s, tw_K_n, and_true, true_and, and_false, false_and, true_or, or_true, not_true_eq_false, not_false_eq_true, ↓reduceIte, Nat.reduceEqDiff, hk2, n0, n1, n2, n3, n4, n7, tw_st_ap, tw_st_st, show ¬ nI 6 = 7 by decide]
    by_cases hs : (dy k).2.2 = -9 <;> by_cases h1 : (dy j1).1 = 0 <;> by_cases h2 : (dy j2).1 = 0 <;> simp only [hs, h1, h2, ↓reduceIte, show ¬ (1 : Int32) = 0 by decide, not_true_eq_false, not_false_eq_true, true_or, or_true, true_and]
    all_goals exact fin _ (fun j hj => by simp only [tw_st_ap]; repeat rw [if_neg (by omega)]) (by simp [tw_st_ap, tw_ns, tw_am, c1, c2, h1, h2, hs]) (by simp [tw_st_ap, tw_ns, n6]) (by simp [tw_st_ap, tw_ns, tw_am, n7, c1, c2, h1, h2, hs])
  · obtain ⟨j1, hj1, rfl⟩ := kp (by omega)
    obtain ⟨j2, hj2, rfl⟩ := kq (by omega)
    have c1 := nI_clamp (show j1 < 2 ^ 31 by omega)
    have c2 := nI_clamp (show j2 < 2 ^ 31 by omega)
    simp only [tz_42_0, tz_42_0n, tz_42_1, tz_42_4, tz_42_44, tz_42_44n, tz_42_45, tz_42_46, tz_42_46n, tz_42_47, tz_42_50, tz_42_53, tz_42_56, tz_42_59, tz_42_59n, tz_42_60, tz_42_61, tz_42_61n, tz_42_62, tz_42_65, tz_42_68, tz_42_69, tz_42_69n, tz_42_70, tz_42_73, tz_42_76, tz_42_79, tz_42_82, tz_42_82n, tz_42_83, tz_42_84, tz_42_84n, tz_42_85, tz_42_88, tz_42_91, tz_42_94, tz_42_97, tz_42_97n, tz_42_98, tz_42_99, tz_42_100, tz_42_100n, tz_42_101, tz_42_104, tz_42_107, tz_42_108, tz_42_108n, tz_42_109, tz_42_112, tz_42_115, tz_42_118, tz_42_121, tz_42_121n, tz_42_122, tz_42_123, tz_42_125, tz_42_128, tz_55_0, tz_55_1, tz_55_2, tz_55_5, tz_55_6, tz_55_9, tz_55_11, tz_55_14, tz_55_15, tz_55_18, tz_55_20, tz_55_23, tz_55_24, tz_55_25, tz_55_28, tz_55_29, tz_55_30, tz_55_33, tz_55_36, tz_55_37, tz_55_39, tz_55_42, tz_55_43, tz_55_46, tz_55_48, tz_55_51, tz_55_52, tz_55_53, tz_55_56, tz_55_57, tz_55_60, tz_55_62, tz_55_65, tz_55_68, tz_55_69, tz_55_72, tz_55_73, tz_55_76, tz_55_78, tz_55_81, tz_55_82, tz_55_83, tz_55_86, tz_55_87, tz_55_88, tz_55_91, tz_55_94, tz_55_95, tz_55_96, tz_55_99, tz_55_100, tz_55_102, tz_55_105, tw_tk ht, ho j1 hj1, ho j2 hj2, tw_va_s, tw_va_n, tw_K_s, tw_K_n, and_true, true_and, and_false, false_and, true_or, or_true, not_true_eq_false, not_false_eq_true, ↓reduceIte, Nat.reduceEqDiff, hk2, n0, n1, n2, n3, n4, n7, tw_st_ap, tw_st_st, show nI 7 = 7 from rfl]
    by_cases hs : (dy k).2.2 = -9
    · by_cases h1 : (dy j1).1 = 0 <;> by_cases h2 : (dy j2).1 = 0 <;> simp only [hs, h1, h2, ↓reduceIte, show ¬ (1 : Int32) = 0 by decide, not_true_eq_false, not_false_eq_true, true_or, or_true, true_and]
      all_goals exact fin _ (fun j hj => by simp only [tw_st_ap]; repeat rw [if_neg (by omega)]) (by simp [tw_st_ap, tw_ns, tw_am, c1, c2, h1, h2, hs]) (by simp [tw_st_ap, tw_ns, n6]) (by simp [tw_st_ap, tw_ns, tw_am, n7, c1, c2, h1, h2, hs])
    · by_cases hh : nI T - (dy k).2.2 ≤ hi
      · have hh' : ¬ hi < nI T - (dy k).2.2 := Int32.not_lt.mpr hh
        by_cases hl : nI T - (dy k).2.2 < lo
        · have hl' : ¬ lo ≤ nI T - (dy k).2.2 := Int32.not_le.mpr hl
          by_cases h1 : (dy j1).1 = 0 <;> by_cases h2 : (dy j2).1 = 0 <;> simp only [hs, hh, hl, h1, h2, ↓reduceIte, show ¬ (1 : Int32) = 0 by decide, not_true_eq_false, not_false_eq_true, true_or, or_true, true_and]
          all_goals exact fin _ (fun j hj => by simp only [tw_st_ap]; repeat rw [if_neg (by omega)]) (by simp [tw_st_ap, tw_ns, tw_am, c1, c2, h1, h2, hs, hh', hl']) (by simp [tw_st_ap, tw_ns, n6]) (by simp [tw_st_ap, tw_ns, tw_am, n7, c1, c2, h1, h2, hs, hh', hl'])
        · have hl' : lo ≤ nI T - (dy k).2.2 := Int32.not_lt.mp hl
          by_cases h1 : (dy j1).1 = 0 <;> by_cases h2 : (dy j2).1 = 0 <;> simp only [hs, hh, hl, h1, h2, ↓reduceIte, show ¬ (1 : Int32) = 0 by decide, not_true_eq_false, not_false_eq_true, true_or, or_true, true_and]
          all_goals exact fin _ (fun j hj => by simp only [tw_st_ap]; repeat rw [if_neg (by omega)]) (by simp [tw_st_ap, tw_ns, tw_am, c1, c2, h1, h2, hs, hh', hl']) (by simp [tw_st_ap, tw_ns, n6]) (by simp [tw_st_ap, tw_ns, tw_am, n7, c1, c2, h1, h2, hs, hh', hl'])
      · have hh' : hi < nI T - (dy k).2.2 := Int32.not_le.mp hh
        by_cases h1 : (dy j1).1 = 0 <;> by_cases h2 : (dy j2).1 = 0 <;> simp only [hs, hh, h1, h2, ↓reduceIte, show ¬ (1 : Int32) = 0 by decide, not_true_eq_false, not_false_eq_true, true_or, or_true, true_and]
        all_goals exact fin _ (fun j hj => by simp only [tw_st_ap]; repeat rw [if_neg (by omega)]) (by simp [tw_st_ap, tw_ns, tw_am, c1, c2, h1, h2, hs, hh']) (by simp [tw_st_ap, tw_ns, n6]) (by simp [tw_st_ap, tw_ns, tw_am, n7, c1, c2, h1, h2, hs, hh'])
end tw_node
