/-! grab, total -/
section tw_grab
variable {sc : Nat × (Nat → Int32)} {d t s i : Nat} {mi : tw_I} {mr : tw_Q} {g : tw_G} {Q : Option Value → tw_G → tw_I → tw_Q → Prop} {T C M : Nat} {sm hd ca mk mv mt : Nat → Int32}
set_option maxRecDepth 100000 in
theorem tw_Ch_fr {mi' : tw_I} (hC : tw_Ch mi T sm hd) (h : mi' 128 = mi 128 ∧ mi' 129 = mi 129 ∧ mi' 130 = mi 130) : tw_Ch mi' T sm hd := by
  obtain ⟨h1, h2, h3⟩ := h
  unfold tw_Ch at hC ⊢
  rw [h1, h2, h3]
  exact hC
set_option maxRecDepth 100000 in
theorem tw_p_gl (hC : tw_Ch mi T sm hd) {lo hi : Nat} (hlo : hi < T) (hC1 : hi + 1 - lo ≤ 1001) (x1 x2 x3 x4 : Option Value) : ∀ f u (mi : tw_I), hi + 1 = u + f → lo ≤ u → tw_Ch mi T sm hd → mi 131 1 = nI (u - lo) → (∀ j, j < u - lo → mi 132 j = sm (lo + j)) →
    (∀ mi', tw_Cc mi' (hi + 1 - lo) (fun j => sm (lo + j)) → (∀ a, a ≠ 131 → a ≠ 132 → mi' a = mi a) → Q (some (.int (nI (hi + 1 - lo)))) tw_g0 mi' (tw_r0 t s i)) →
    tw_E sc (d + 2) 13 79 [some (.ref 0), x1, x2, x3, x4, some (.int (nI hi)), some (.int (nI u))] [] tw_g0 mi (tw_r0 t s i) Q := by
  have hT := hC.1
  intro f
  induction f with
  | zero =>
    intro u mi hu hl hCh h1 h2 hQ
    obtain rfl : u = hi + 1 := by omega
    rw [tz_13_79]
    simp only [tz_13_0, tz_13_1, tz_13_4, tz_13_5, tz_13_8, tz_13_10, tz_13_12, tz_13_14, tz_13_17, tz_13_18, tz_13_19, tz_13_20, tz_13_23, tz_13_24, tz_13_27, tz_13_30, tz_13_31, tz_13_34, tz_13_35, tz_13_38, tz_13_41, tz_13_43, tz_13_44, tz_13_45, tz_13_48, tz_13_51, tz_13_53, tz_13_54, tz_13_55, tz_13_56, tz_13_59, tz_13_62, tz_13_63, tz_13_64, tz_13_67, tz_13_69, tz_13_71, tz_13_72, tz_13_73, tz_13_74, tz_13_77, tz_13_81, tz_13_83, tz_13_86, tz_13_87, tz_13_90, tz_13_91, tz_13_94, tz_13_96, tz_13_99, tz_13_102, tz_13_105, tz_13_108, tz_13_109, tz_13_112, tz_13_115, tz_101_0, tz_101_1, tz_101_4, tk_0, tq_0_0, tq_0_1, tq_0_2, tq_0_3, tq_0_4, tq_0_5, tq_0_6, tq_t, tq_s, tk_131, tq_131_0, tw_va_s, tw_va_n, tw_K_s, tw_K_n, and_true, true_and, and_false, false_and, true_or, or_true, not_true_eq_false, not_false_eq_true, ↓reduceIte, Nat.reduceEqDiff, h1]
    rw [tw_lt_t (by omega) (by omega)]
    exact hQ mi ⟨hC1, h1, h2⟩ (fun _ _ _ => rfl)
  | succ f ih =>
    intro u mi hu hl hCh h1 h2 hQ
    rw [tz_13_79]
    simp only [tz_13_0, tz_13_1, tz_13_4, tz_13_5, tz_13_8, tz_13_10, tz_13_12, tz_13_14, tz_13_17, tz_13_18, tz_13_19, tz_13_20, tz_13_23, tz_13_24, tz_13_27, tz_13_30, tz_13_31, tz_13_34, tz_13_35, tz_13_38, tz_13_41, tz_13_43, tz_13_44, tz_13_45, tz_13_48, tz_13_51, tz_13_53, tz_13_54, tz_13_55, tz_13_56, tz_13_59, tz_13_62, tz_13_63, tz_13_64, tz_13_67, tz_13_69, tz_13_71, tz_13_72, tz_13_73, tz_13_74, tz_13_77, tz_13_81, tz_13_83, tz_13_86, tz_13_87, tz_13_90, tz_13_91, tz_13_94, tz_13_96, tz_13_99, tz_13_102, tz_13_105, tz_13_108, tz_13_109, tz_13_112, tz_13_115, tz_102_0, tz_102_1, tz_102_4, tz_102_7, tz_102_10, tz_102_11, tz_102_14, tz_102_15, tz_102_18, tz_102_19, tz_102_20, tz_102_21, tz_102_22, tz_102_25, tz_102_26, tz_102_27, tz_102_30, tk_0, tq_0_0, tq_0_1, tq_0_2, tq_0_3, tq_0_4, tq_0_5, tq_0_6, tq_t, tq_s, tk_128, tq_128_0, tq_128_1, tk_131, tq_131_0, tk_132, tj_132, tw_va_s, tw_va_n, tw_K_s, tw_K_n, and_true, true_and, and_false, false_and, true_or, or_true, not_true_eq_false, not_false_eq_true, ↓reduceIte, Nat.reduceEqDiff, h1, tw_p_sampleAt hCh (show u < T by omega), tw_st_ap, nI_1, nI_clamp (show u - lo < 2 ^ 31 by omega), vp_in_nI (show u - lo < 1001 by omega) (by omega)]
    rw [tw_lt_f (by omega) (by omega)]
    rw [if_neg (show ¬ (1001 : Int32) ≤ nI (u - lo) from nI_ge (b := 1001) (by omega) (by omega))]
    refine ih (u + 1) _ (by omega) (by omega) (tw_Ch_fr hCh ⟨?_, ?_, ?_⟩) ?_ (fun j hj => ?_) (fun mi' q1 q2 => hQ mi' q1 (fun a ha hb => ?_))
    · simp [tw_st_ap]
    · simp [tw_st_ap]
    · simp [tw_st_ap]
    · simp only [tw_st_ap, ↓reduceIte]
      congr 1
      omega
    · simp only [tw_st_ap, ↓reduceIte, Nat.reduceEqDiff]
      by_cases hj2 : j = u - lo
      · rw [if_pos hj2, hj2]
        congr 1
        omega
      · rw [if_neg hj2]
        exact h2 j (by omega)
    · rw [q2 a ha hb]
      simp only [tw_st_ap, if_neg ha, if_neg hb]
/-- what is caught around tick v -/
def tw_gc (T v A B : Nat) : Nat := min (v + B + 1) T - (v - A)
set_option maxRecDepth 100000 in
theorem tw_wh_spec (T : Nat) (hd : Nat → Int32) (hT : T ≤ 4000) (x : Int32) : tw_wh T hd x = -9 ∨ ∃ v, v < T ∧ tw_wh T hd x = nI v := by
  have hle := tw_cn_le hd T
  unfold tw_wh
  split
  · rename_i hx
    obtain ⟨j, hj, rfl⟩ : ∃ j, j < tw_cn hd T ∧ x = nI j := by
      rcases tw_ixc x (T := tw_cn hd T) (by omega) with ⟨c1, c2⟩ | ⟨c1, c2, c3, c4⟩ | ⟨j, hj, rfl, c1, c2, c3, c4, c5⟩
      · exact absurd hx c2
      · exact absurd hx c4
      · exact ⟨j, hj, rfl⟩
    obtain ⟨v, hv0, hv1, hv2, hv3, hv4⟩ := tw_fi_spec hd j T 0 (Nat.zero_le _) (by rw [Nat.zero_add]; exact hj)
    exact Or.inr ⟨v, by omega, by rw [nI_clamp (by omega)]; exact hv4⟩
  · exact Or.inl rfl
set_option maxRecDepth 100000 in
theorem tw_ne9 {v : Nat} (hv : v < 2 ^ 31) : ¬ nI v = -9 := fun q => by
  have h1 : nI v < 0 := by rw [q]; decide
  exact absurd h1 (nI_pos hv)
set_option maxRecDepth 100000 in
theorem tw_500 {x : Int32} (h0 : ¬ x < 0) (h1 : x ≤ 500) : ∃ j, j ≤ 500 ∧ x = nI j := nI_of2 (M := 500) (n := 500) rfl h0 h1
set_option maxRecDepth 100000 in
theorem tw_p_grab (hC : tw_Ch mi T sm hd) (x a b : Int32)
    (h1 : tw_wh T hd x = -9 → Q (some (.int (-1))) tw_g0 mi (tw_r0 t s i))
    (h2 : tw_wh T hd x ≠ -9 → ¬ ((0 ≤ a ∧ a ≤ 500) ∧ (0 ≤ b ∧ b ≤ 500)) → Q (some (.int (-2))) tw_g0 mi (tw_r0 t s i))
    (h3 : ∀ v A B mi', v < T → tw_wh T hd x = nI v → A ≤ 500 → B ≤ 500 → a = nI A → b = nI B → tw_Cc mi' (tw_gc T v A B) (fun j => sm (v - A + j)) → (∀ a, a ≠ 131 → a ≠ 132 → mi' a = mi a) → Q (some (.int (nI (tw_gc T v A B)))) tw_g0 mi' (tw_r0 t s i)) :
    tw_E sc (d + 2) 13 0 [some (.ref 0), some (.int x), some (.int a), some (.int b), none, none, none] [] tw_g0 mi (tw_r0 t s i) Q := by
  have hT := hC.1
  simp only [tz_13_0, tz_13_1, tz_13_4, tz_13_5, tz_13_8, tz_13_10, tz_13_12, tz_13_14, tz_13_17, tz_13_18, tz_13_19, tz_13_20, tz_13_23, tz_13_24, tz_13_27, tz_13_30, tz_13_31, tz_13_34, tz_13_35, tz_13_38, tz_13_41, tz_13_43, tz_13_44, tz_13_45, tz_13_48, tz_13_51, tz_13_53, tz_13_54, tz_13_55, tz_13_56, tz_13_59, tz_13_62, tz_13_63, tz_13_64, tz_13_67, tz_13_69, tz_13_71, tz_13_72, tz_13_73, tz_13_74, tz_13_77, tz_13_81, tz_13_83, tz_13_86, tz_13_87, tz_13_90, tz_13_91, tz_13_94, tz_13_96, tz_13_99, tz_13_102, tz_13_105, tz_13_108, tz_13_109, tz_13_112, tz_13_115, tz_100_0, tz_100_1, tz_100_2, tz_100_5, tz_90_0, tz_90_1, tz_90_4, tk_0, tq_0_0, tq_0_1, tq_0_2, tq_0_3, tq_0_4, tq_0_5, tq_0_6, tq_t, tq_s, tk_128, tq_128_0, tq_128_1, tk_131, tq_131_0, tw_va_s, tw_va_n, tw_K_s, tw_K_n, and_true, true_and, and_false, false_and, true_or, or_true, not_true_eq_false, not_false_eq_true, ↓reduceIte, Nat.reduceEqDiff, tw_p_hit hC, hC.2.1, tw_st_ap]
  rcases tw_wh_spec T hd hT x with hw | ⟨v, hv, hw⟩
  · simp only [hw, not_true_eq_false, ↓reduceIte]
    exact h1 hw
  · have hne := tw_ne9 (show v < 2 ^ 31 by omega)
    rw [hw]
    rw [if_pos hne]
    have h2' := h2 (by rw [hw]; exact hne)
    by_cases a0 : a < 0
    · rw [if_pos a0]; exact h2' (fun q => absurd a0 (Int32.not_lt.mpr q.1.1))
    rw [if_neg a0]
    by_cases a5 : 500 < a
    · rw [if_pos a5]; exact h2' (fun q => absurd a5 (Int32.not_lt.mpr q.1.2))
    rw [if_neg a5]
    by_cases b0 : b < 0
    · rw [if_pos b0]; exact h2' (fun q => absurd b0 (Int32.not_lt.mpr q.2.1))
    rw [if_neg b0]
    by_cases b5 : b ≤ 500
    · rw [if_pos b5]
      obtain ⟨A, hA, rfl⟩ := tw_500 a0 (Int32.not_lt.mp a5)
      obtain ⟨B, hB, rfl⟩ := tw_500 b0 b5
      obtain ⟨T, rfl⟩ : ∃ z, T = z + 1 := ⟨T - 1, by omega⟩
      have e1 : (if nI (T + 1) - 1 < nI v + nI B then nI (T + 1) - 1 else nI v + nI B) = nI (min (v + B) T) := by
        rw [nI_pred, nI_add]
        by_cases q : T < v + B
        · rw [if_pos (nI_lt q (by omega)), Nat.min_eq_right (by omega)]
        · rw [if_neg (nI_nlt (by omega) (by omega)), Nat.min_eq_left (by omega)]
      have e2 : (if nI v - nI A < 0 then (0 : Int32) else nI v - nI A) = nI (v - A) := by
        by_cases q : v < A
        · rw [if_pos (pk_sneg (by omega) q), show v - A = 0 by omega, nI_0]
        · rw [pk_sub (by omega), if_neg (nI_pos (by omega))]
      rw [e1, e2]
      have hgc : tw_gc (T + 1) v A B = min (v + B) T + 1 - (v - A) := by unfold tw_gc; omega
      have key := h3 v A B
      rw [hgc] at key
      refine tw_p_gl hC (lo := v - A) (hi := min (v + B) T) (by omega) (by omega) _ _ _ _ (min (v + B) T + 1 - (v - A)) (v - A) _ (by omega) (Nat.le_refl _) (tw_Ch_fr hC ⟨by simp [tw_st_ap], by simp [tw_st_ap], by simp [tw_st_ap]⟩) (by simp [tw_st_ap, nI_0]) (fun j hj => by omega) (fun mi' q1 q2 => key mi' hv hw hA hB rfl rfl q1 (fun a ha hb => ?_))
      rw [q2 a ha hb]
      simp only [tw_st_ap, if_neg ha]
    · rw [if_neg b5]
      exact h2' (fun q => b5 q.2.2)
set_option maxRecDepth 100000 in
theorem tw_Mh_fr {mi' : tw_I} (hC : tw_Mh mi T sm hd) (h : mi' 139 20 = mi 139 20 ∧ mi' 154 = mi 154 ∧ mi' 155 = mi 155) : tw_Mh mi' T sm hd := by
  obtain ⟨h1, h2, h3⟩ := h
  unfold tw_Mh at hC ⊢
  rw [h1, h2, h3]
  exact hC
set_option maxRecDepth 100000 in
theorem tw_q_noTick (hC : tw_Mh mi T sm hd) (x : Int32) : tw_E sc (d + 1) 153 0 [some (.ref 139), some (.int x)] [] tw_g0 mi (tw_r0 t s i) Q = Q (some (.int (if 0 ≤ x ∧ x < nI T then 0 else 1))) tw_g0 mi (tw_r0 t s i) := by
  have hT := hC.1
  simp only [tz_153_0, tz_153_1, tz_153_2, tz_153_3, tz_153_4, tz_153_7, tz_153_8, tz_153_9, tz_153_10, tz_153_13, tz_153_16, tz_153_17, tz_153_20, tz_153_21, tk_139, tq_139_1, tq_139_6, tq_139_7, tq_139_8, tq_139_9, tq_139_10, tq_139_12, tq_139_13, tq_139_14, tq_139_15, tq_139_16, tq_139_17, tq_139_18, tq_139_19, tq_139_21, tq_139_22, tq_139_24, tq_139_26, tq_139_27, tq_139_28, tq_139_34, tq_139_35, tq_139_36, tq_139_37, tw_va_s, tw_va_n, tw_K_s, tw_K_n, and_true, true_and, and_false, false_and, true_or, or_true, not_true_eq_false, not_false_eq_true, ↓reduceIte, Nat.reduceEqDiff, tw_L0, tw_q_in, hC.2.1, tw_inT (show T < 2 ^ 31 by omega), tw_b0]
  by_cases h : 0 ≤ x ∧ x < nI T <;> simp [h]
/-- how many are caught with u looked at, all counted from A ahead of tick 0 -/
def tw_gk (T v A u : Nat) : Nat := min u (T + A) - max v A
set_option maxRecDepth 100000 in
theorem tw_q_gl {v A B : Nat} (hv : v < T) (hT : T ≤ 4000) (hA : A ≤ 500) (hB : B ≤ 500) (x1 x2 : Option Value) : ∀ f u (mi : tw_I), v + A + B + 1 = u + f → v ≤ u → tw_Mh mi T sm hd → mi 139 23 = nI (tw_gk T v A u) → (∀ j, j < tw_gk T v A u → mi 156 j = sm (v - A + j)) →
    (∀ mi', tw_Mc mi' (tw_gc T v A B) (fun j => sm (v - A + j)) → (∀ a, a ≠ 139 → a ≠ 156 → mi' a = mi a) → (∀ x, x ≠ 23 → mi' 139 x = mi 139 x) → Q (some (.int (nI (tw_gc T v A B)))) tw_g0 mi' (tw_r0 t s i)) →
    tw_E sc (d + 2) 158 59 [some (.ref 139), x1, x2, some (.int (nI B)), some (.int (nI v)), some (.int (nI u - nI A))] [] tw_g0 mi (tw_r0 t s i) Q := by
  intro f
  have hle : ∀ u, u < 2 ^ 30 → ((nI v + nI B < nI u - nI A) ↔ v + B + A < u) := by
    intro u hu
    rw [nI_add, Int32.lt_iff_toInt_lt, pk_sub_toInt hu (by omega), nI_toInt (by omega)]
    omega
  have hin : ∀ u, u < 2 ^ 30 → ((0 ≤ nI u - nI A ∧ nI u - nI A < nI T) ↔ (A ≤ u ∧ u < T + A)) := by
    intro u hu
    rw [Int32.le_iff_toInt_le, Int32.lt_iff_toInt_lt, pk_sub_toInt hu (by omega), nI_toInt (by omega)]
    show (0 : Int) ≤ _ ∧ _ ↔ _
    omega
  induction f with
  | zero =>
    intro u mi hu hl hM h1 h2 hQ
    obtain rfl : u = v + A + B + 1 := by omega
    have e : tw_gk T v A (v + A + B + 1) = tw_gc T v A B := by unfold tw_gk tw_gc; omega
    rw [e] at h1 h2
    rw [tz_158_59]
    simp only [tz_158_0, tz_158_1, tz_158_2, tz_158_5, tz_158_6, tz_158_7, tz_158_10, tz_158_12, tz_158_14, tz_158_16, tz_158_19, tz_158_20, tz_158_21, tz_158_22, tz_158_23, tz_158_24, tz_158_27, tz_158_30, tz_158_33, tz_158_34, tz_158_35, tz_158_36, tz_158_39, tz_158_42, tz_158_45, tz_158_47, tz_158_48, tz_158_49, tz_158_50, tz_158_53, tz_158_55, tz_158_56, tz_158_57, tz_158_61, tz_158_63, tz_158_64, tz_158_65, tz_158_68, tz_158_69, tz_158_71, tz_158_74, tz_158_77, tz_158_78, tz_158_81, tz_158_82, tz_158_85, tz_158_86, tz_158_89, tz_158_91, tz_158_92, tz_158_93, tz_158_94, tz_158_95, tz_158_98, tz_158_99, tz_158_100, tz_158_103, tz_158_106, tz_158_109, tz_158_110, tz_158_113, tk_139, tq_139_1, tq_139_6, tq_139_7, tq_139_8, tq_139_9, tq_139_10, tq_139_12, tq_139_13, tq_139_14, tq_139_15, tq_139_16, tq_139_17, tq_139_18, tq_139_19, tq_139_21, tq_139_22, tq_139_24, tq_139_26, tq_139_27, tq_139_28, tq_139_34, tq_139_35, tq_139_36, tq_139_37, tw_va_s, tw_va_n, tw_K_s, tw_K_n, and_true, true_and, and_false, false_and, true_or, or_true, not_true_eq_false, not_false_eq_true, ↓reduceIte, Nat.reduceEqDiff, h1]
    rw [if_pos ((hle _ (by omega)).mpr (by omega))]
    exact hQ mi ⟨by unfold tw_gc; omega, h1, h2⟩ (fun _ _ _ => rfl) (fun _ _ => rfl)
  | succ f ih =>
    intro u mi hu hl hM h1 h2 hQ
    have hs : nI u - nI A + 1 = nI (u + 1) - nI A := by
      rw [nI_succ]
      simp only [Int32.sub_eq_add_neg]
      rw [Int32.add_assoc, Int32.add_comm (-nI A) 1, ← Int32.add_assoc]
    have hgk : tw_gk T v A u < 1001 := by unfold tw_gk; omega
    rw [tz_158_59]
    simp only [tz_158_0, tz_158_1, tz_158_2, tz_158_5, tz_158_6, tz_158_7, tz_158_10, tz_158_12, tz_158_14, tz_158_16, tz_158_19, tz_158_20, tz_158_21, tz_158_22, tz_158_23, tz_158_24, tz_158_27, tz_158_30, tz_158_33, tz_158_34, tz_158_35, tz_158_36, tz_158_39, tz_158_42, tz_158_45, tz_158_47, tz_158_48, tz_158_49, tz_158_50, tz_158_53, tz_158_55, tz_158_56, tz_158_57, tz_158_61, tz_158_63, tz_158_64, tz_158_65, tz_158_68, tz_158_69, tz_158_71, tz_158_74, tz_158_77, tz_158_78, tz_158_81, tz_158_82, tz_158_85, tz_158_86, tz_158_89, tz_158_91, tz_158_92, tz_158_93, tz_158_94, tz_158_95, tz_158_98, tz_158_99, tz_158_100, tz_158_103, tz_158_106, tz_158_109, tz_158_110, tz_158_113, tw_q_noTick hM, tk_139, tq_139_1, tq_139_6, tq_139_7, tq_139_8, tq_139_9, tq_139_10, tq_139_12, tq_139_13, tq_139_14, tq_139_15, tq_139_16, tq_139_17, tq_139_18, tq_139_19, tq_139_21, tq_139_22, tq_139_24, tq_139_26, tq_139_27, tq_139_28, tq_139_34, tq_139_35, tq_139_36, tq_139_37, tw_va_s, tw_va_n, tw_K_s, tw_K_n, and_true, true_and, and_false, false_and, true_or, or_true, not_true_eq_false, not_false_eq_true, ↓reduceIte, Nat.reduceEqDiff, h1, hs]
    rw [if_neg (fun q => by have := (hle _ (by omega)).mp q; omega)]
    by_cases hi : A ≤ u ∧ u < T + A
    · have e : nI u - nI A = nI (u - A) := pk_sub hi.1
      have hj := hM.2.2.1 (u - A) (by omega)
      have hg : tw_gk T v A (u + 1) = tw_gk T v A u + 1 := by unfold tw_gk; omega
      rw [if_pos ((hin u (by omega)).mpr hi)]
      simp only [not_true_eq_false, ↓reduceIte]
      simp only [e, tk_154, tj_154, tk_156, tj_156, tw_va_s, tw_va_n, tw_K_s, tw_K_n, and_true, true_and, and_false, false_and, true_or, or_true, not_true_eq_false, not_false_eq_true, ↓reduceIte, Nat.reduceEqDiff, hj, nI_clamp (show u - A < 2 ^ 31 by omega), nI_clamp (show tw_gk T v A u < 2 ^ 31 by omega), vp_in_nI (show u - A < 4000 by omega) (by omega), vp_in_nI hgk (by omega), tw_st_ap, h1, nI_1]
      refine ih (u + 1) _ (by omega) (by omega) (tw_Mh_fr hM ⟨by simp [tw_st_ap], by simp [tw_st_ap], by simp [tw_st_ap]⟩) (by simp only [tw_st_ap, ↓reduceIte, hg]) (fun j hj => ?_) (fun mi' q1 q2 q3 => hQ mi' q1 (fun a ha hb => ?_) (fun x hx => ?_))
      · simp only [tw_st_ap, ↓reduceIte, Nat.reduceEqDiff]
        by_cases hj2 : j = tw_gk T v A u
        · rw [if_pos hj2, hj2]
          congr 1
          unfold tw_gk
          omega
        · rw [if_neg hj2]
          exact h2 j (by omega)
      · rw [q2 a ha hb]
        simp only [tw_st_ap, if_neg ha, if_neg hb]
      · rw [q3 x hx]
        simp only [tw_st_ap, ↓reduceIte, if_neg hx, Nat.reduceEqDiff]
    · have hg : tw_gk T v A (u + 1) = tw_gk T v A u := by unfold tw_gk; omega
      rw [if_neg (fun q => hi ((hin u (by omega)).mp q))]
      simp only [show ¬ (1 : Int32) = 0 by decide, not_false_eq_true, ↓reduceIte]
      exact ih (u + 1) mi (by omega) (by omega) hM (by rw [hg]; exact h1) (by rw [hg]; exact h2) hQ
set_option maxRecDepth 100000 in
theorem tw_q_grab (hC : tw_Mh mi T sm hd) (x a b : Int32)
    (h1 : tw_wh T hd x = -9 → Q (some (.int (-1))) tw_g0 (tw_th mi) (tw_r0 t s i))
    (h2 : tw_wh T hd x ≠ -9 → ¬ ((0 ≤ a ∧ a ≤ 500) ∧ (0 ≤ b ∧ b ≤ 500)) → Q (some (.int (-2))) tw_g0 (tw_th mi) (tw_r0 t s i))
    (h3 : ∀ v A B mi', v < T → tw_wh T hd x = nI v → A ≤ 500 → B ≤ 500 → a = nI A → b = nI B → tw_Mc mi' (tw_gc T v A B) (fun j => sm (v - A + j)) → (∀ a, a ≠ 139 → a ≠ 156 → mi' a = mi a) → (∀ x, x ≠ 0 → x ≠ 23 → mi' 139 x = mi 139 x) → Q (some (.int (nI (tw_gc T v A B)))) tw_g0 mi' (tw_r0 t s i)) :
    tw_E sc (d + 2) 158 0 [some (.ref 139), some (.int x), some (.int a), some (.int b), none, none] [] tw_g0 mi (tw_r0 t s i) Q := by
  have hT := hC.1
  simp only [tz_158_0, tz_158_1, tz_158_2, tz_158_5, tz_158_6, tz_158_7, tz_158_10, tz_158_12, tz_158_14, tz_158_16, tz_158_19, tz_158_20, tz_158_21, tz_158_22, tz_158_23, tz_158_24, tz_158_27, tz_158_30, tz_158_33, tz_158_34, tz_158_35, tz_158_36, tz_158_39, tz_158_42, tz_158_45, tz_158_47, tz_158_48, tz_158_49, tz_158_50, tz_158_53, tz_158_55, tz_158_56, tz_158_57, tz_158_61, tz_158_63, tz_158_64, tz_158_65, tz_158_68, tz_158_69, tz_158_71, tz_158_74, tz_158_77, tz_158_78, tz_158_81, tz_158_82, tz_158_85, tz_158_86, tz_158_89, tz_158_91, tz_158_92, tz_158_93, tz_158_94, tz_158_95, tz_158_98, tz_158_99, tz_158_100, tz_158_103, tz_158_106, tz_158_109, tz_158_110, tz_158_113, tk_139, tq_139_1, tq_139_6, tq_139_7, tq_139_8, tq_139_9, tq_139_10, tq_139_12, tq_139_13, tq_139_14, tq_139_15, tq_139_16, tq_139_17, tq_139_18, tq_139_19, tq_139_21, tq_139_22, tq_139_24, tq_139_26, tq_139_27, tq_139_28, tq_139_34, tq_139_35, tq_139_36, tq_139_37, tw_va_s, tw_va_n, tw_K_s, tw_K_n, and_true, true_and, and_false, false_and, true_or, or_true, not_true_eq_false, not_false_eq_true, ↓reduceIte, Nat.reduceEqDiff, tw_L0, tw_L500]
  rw [show tw_st mi 139 (tw_st (mi 139) 0 0) = tw_th mi from rfl]
  simp only [tw_q_tick (tw_Mh_th hC), tz_158_0, tz_158_1, tz_158_2, tz_158_5, tz_158_6, tz_158_7, tz_158_10, tz_158_12, tz_158_14, tz_158_16, tz_158_19, tz_158_20, tz_158_21, tz_158_22, tz_158_23, tz_158_24, tz_158_27, tz_158_30, tz_158_33, tz_158_34, tz_158_35, tz_158_36, tz_158_39, tz_158_42, tz_158_45, tz_158_47, tz_158_48, tz_158_49, tz_158_50, tz_158_53, tz_158_55, tz_158_56, tz_158_57, tz_158_61, tz_158_63, tz_158_64, tz_158_65, tz_158_68, tz_158_69, tz_158_71, tz_158_74, tz_158_77, tz_158_78, tz_158_81, tz_158_82, tz_158_85, tz_158_86, tz_158_89, tz_158_91, tz_158_92, tz_158_93, tz_158_94, tz_158_95, tz_158_98, tz_158_99, tz_158_100, tz_158_103, tz_158_106, tz_158_109, tz_158_110, tz_158_113, tk_139, tq_139_1, tq_139_6, tq_139_7, tq_139_8, tq_139_9, tq_139_10, tq_139_12, tq_139_13, tq_139_14, tq_139_15, tq_139_16, tq_139_17, tq_139_18, tq_139_19, tq_139_21, tq_139_22, tq_139_24, tq_139_26, tq_139_27, tq_139_28, tq_139_34, tq_139_35, tq_139_36, tq_139_37, tw_va_s, tw_va_n, tw_K_s, tw_K_n, and_true, true_and, and_false, false_and, true_or, or_true, not_true_eq_false, not_false_eq_true, ↓reduceIte, Nat.reduceEqDiff, tw_L0, tw_L500, tw_q_in, tw_b0]
  rcases tw_wh_spec T hd hT x with hw | ⟨v, hv, hw⟩
  · simp only [hw, not_true_eq_false, ↓reduceIte]
    exact h1 hw
  · have hne := tw_ne9 (show v < 2 ^ 31 by omega)
    have h2' := h2 (by rw [hw]; exact hne)
    rw [hw, if_pos hne]
    by_cases ha : 0 ≤ a ∧ a ≤ 500
    · by_cases hb : 0 ≤ b ∧ b ≤ 500
      · obtain ⟨A, hA, rfl⟩ := tw_500 (Int32.not_lt.mpr ha.1) ha.2
        obtain ⟨B, hB, rfl⟩ := tw_500 (Int32.not_lt.mpr hb.1) hb.2
        simp only [ha, hb, and_self, true_or, or_true, not_true_eq_false, not_false_eq_true, ↓reduceIte]
        have e0 : tw_gk T v A v = 0 := by unfold tw_gk; omega
        refine tw_q_gl hv hT hA hB _ _ (A + B + 1) v _ (by omega) (Nat.le_refl _) (tw_Mh_fr (tw_Mh_th hC) ⟨by simp [tw_st_ap], by simp [tw_st_ap], by simp [tw_st_ap]⟩) (by simp [tw_st_ap, e0, nI_0]) (fun j hj => by omega) (fun mi' q1 q2 q3 => h3 v A B mi' hv hw hA hB rfl rfl q1 (fun a ha hb => ?_) (fun x hx hy => ?_))
        · rw [q2 a ha hb]
          simp only [tw_st_ap, if_neg ha, tw_th]
        · rw [q3 x hy]
          simp only [tw_st_ap, ↓reduceIte, if_neg hy, if_neg hx, tw_th]
      · simp only [ha, hb, and_self, true_or, or_true, not_true_eq_false, not_false_eq_true, ↓reduceIte]
        exact h2' (fun q => hb q.2)
    · simp only [ha, true_or, or_true, not_true_eq_false, not_false_eq_true, ↓reduceIte]
      exact h2' (fun q => ha q.1)
end tw_grab
