/-! node, total -/
abbrev tw_isof (kd : Nat) (a : Nat) : Prop := a = 8 ∨ a = kd ∨ a = 0 ∧ kd = 1 ∨ a = 6 ∧ kd = 7
def tw_det (n : tw_Nd) (w : Nat) : Int32 := if w = 0 then nI n.1 else if w = 1 then n.2.1 else if w = 2 then n.2.2.1 else if w = 3 then n.2.2.2.1 else n.2.2.2.2
def tw_nq (N : Nat) (pg : Nat → tw_Nd) (x a w : Int32) : Int32 :=
  tw_get N x (fun j => if (0 ≤ a ∧ a ≤ 8) ∧ (0 ≤ w ∧ w ≤ 4) then (if tw_isof (pg j).1 a.toNatClampNeg then tw_det (pg j) w.toNatClampNeg else -13) else -2) (-1)
/-- what total tells -/
def tw_tot (N : Nat) (S : tw_Hs) (C M n : Nat) (w : Int32) : Int32 := if w = 0 then nI N else if w = 1 then nI S.1 else if w = 2 then nI (tw_cn S.2.2.1 S.1) else if w = 3 then nI C else if w = 4 then nI M else if w = 5 then nI n else -2
set_option maxRecDepth 100000 in
theorem tw_sw_6 {w : Int32} {a b c d e f g : Nat} : tw_sw w 0 [a, b, c, d, e, f] g = if w = 0 then a else if w = 1 then b else if w = 2 then c else if w = 3 then d else if w = 4 then e else if w = 5 then f else g := by
  by_cases h : 0 ≤ w ∧ w ≤ 5
  · obtain ⟨m, _, h2, rfl⟩ := tw_rng (lo := 0) (hi := 5) (by omega) (by omega) h.1 h.2
    rcases (show m = 0 ∨ m = 1 ∨ m = 2 ∨ m = 3 ∨ m = 4 ∨ m = 5 by omega) with rfl | rfl | rfl | rfl | rfl | rfl <;> rfl
  · have n : ∀ z : Int32, 0 ≤ z → z ≤ 5 → ¬ w = z := fun z h1 h2 e => h (by rw [e]; exact ⟨h1, h2⟩)
    rw [if_neg (n 0 (by decide) (by decide)), if_neg (n 1 (by decide) (by decide)), if_neg (n 2 (by decide) (by decide)), if_neg (n 3 (by decide) (by decide)), if_neg (n 4 (by decide) (by decide)), if_neg (n 5 (by decide) (by decide))]
    unfold tw_sw
    by_cases h1 : w.toInt < 0
    · rw [if_pos h1]
    · rw [if_neg h1]
      have h2 : 5 < w.toInt := by
        apply Int.not_le.mp
        intro h3
        exact h ⟨Int32.le_iff_toInt_le.mpr (show (0 : Int32).toInt ≤ _ from by have : (0 : Int32).toInt = 0 := rfl; omega), Int32.le_iff_toInt_le.mpr (show _ ≤ (5 : Int32).toInt from by have : (5 : Int32).toInt = 5 := rfl; omega)⟩
      obtain ⟨m, hm⟩ := Int.eq_ofNat_of_zero_le (show 0 ≤ w.toInt - 0 - 6 by omega)
      rw [show (w.toInt - 0).toNat = m + 6 by omega]
      simp
section tw_node2
variable {sc : Nat × (Nat → Int32)} {d t s i N k T : Nat} {mi : tw_I} {Q : Option Value → tw_G → tw_I → tw_Q → Prop} {pg : Nat → tw_Nd} {dy : tw_Dy} {S : tw_Hs}
set_option maxRecDepth 100000 in
theorem tw_p_isOf {u kd : Nat} (hu : tw_kd tw_g0 u = 2) (hk : mi u 0 = nI kd) (h7 : kd ≤ 7) {a : Nat} (ha : a ≤ 8) : tw_E sc (d + 1) 48 0 [some (.ref u), some (.int (nI a))] [] tw_g0 mi (tw_r0 t s i) Q = Q (some (.int (if tw_isof kd a then 1 else 0))) tw_g0 mi (tw_r0 t s i) := by
  have e0 : (nI a = 0) = (a = 0) := propext (nI_eq (b := 0) (by omega) (by omega))
  have e6 : (nI a = 6) = (a = 6) := propext (nI_eq (b := 6) (by omega) (by omega))
  have e8 : (nI a = 8) = (a = 8) := propext (nI_eq (b := 8) (by omega) (by omega))
  have f0 : (nI kd = 0) = (kd = 0) := propext (nI_eq (b := 0) (by omega) (by omega))
  have f1 : (nI kd = 1) = (kd = 1) := propext (nI_eq (b := 1) (by omega) (by omega))
  have f6 : (nI kd = 6) = (kd = 6) := propext (nI_eq (b := 6) (by omega) (by omega))
  have f7 : (nI kd = 7) = (kd = 7) := propext (nI_eq (b := 7) (by omega) (by omega))
  have fa : (nI kd = nI a) = (kd = a) := propext (nI_eq (by omega) (by omega))
  simp only [tz_48_0, tz_48_1, tz_48_36, tz_48_37, tz_48_40, tz_48_43, tz_48_44, tz_48_47, tz_48_48, tz_48_51, tz_48_52, tz_48_55, tz_48_56, tz_48_57, tz_48_58, tz_48_61, tz_48_62, tz_48_63, tz_48_64, tz_48_65, tz_48_68, tz_48_69, tz_48_72, tz_48_73, tz_48_76, tz_48_77, tz_56_0, tz_56_1, tz_56_4, tz_56_6, tz_56_9, tz_56_10, tz_56_13, tz_56_15, tz_56_18, tz_56_19, tz_56_22, tz_56_23, tw_va_s, tw_va_n, tw_K_s, tw_K_n, and_true, true_and, and_false, false_and, true_or, or_true, not_true_eq_false, not_false_eq_true, ↓reduceIte, Nat.reduceEqDiff, hu, hk, e0, e6, e8, f0, f1, f6, f7, fa]
  by_cases a0 : a = 0
  · by_cases k0 : kd = 0 <;> by_cases k1 : kd = 1 <;> simp [a0, k0, k1, tw_isof, eq_comm] <;> omega
  · by_cases a6 : a = 6
    · by_cases k6 : kd = 6 <;> by_cases k7 : kd = 7 <;> simp [a6, k6, k7, tw_isof, eq_comm] <;> omega
    · by_cases a8 : a = 8
      · simp [a8, tw_isof]
      · by_cases ka : kd = a <;> simp [a0, a6, a8, ka, tw_isof, eq_comm]
set_option maxRecDepth 100000 in
theorem tw_p_detail {u : Nat} (hu : tw_kd tw_g0 u = 2) {n : tw_Nd} (h0 : mi u 0 = nI n.1) (h1 : mi u 1 = n.2.1) (h2 : mi u 2 = n.2.2.1) (h3 : mi u 3 = n.2.2.2.1) (h4 : mi u 4 = n.2.2.2.2) {w : Nat} (hw : w ≤ 4) : tw_E sc d 49 0 [some (.ref u), some (.int (nI w))] [] tw_g0 mi (tw_r0 t s i) Q = Q (some (.int (tw_det n w))) tw_g0 mi (tw_r0 t s i) := by
  have e : ∀ w, w ≤ 4 → tw_sw (nI w) 0 [32, 37, 42, 47] 52 = (if w = 0 then 32 else if w = 1 then 37 else if w = 2 then 42 else if w = 3 then 47 else 52) := by decide
  rw [tz_49_0, tz_49_1, e w hw]
  rcases (show w = 0 ∨ w = 1 ∨ w = 2 ∨ w = 3 ∨ w = 4 by omega) with rfl | rfl | rfl | rfl | rfl <;> simp [tz_49_0, tz_49_1, tz_49_32, tz_49_33, tz_49_36, tz_49_37, tz_49_38, tz_49_41, tz_49_42, tz_49_43, tz_49_46, tz_49_47, tz_49_48, tz_49_51, tz_49_52, tz_49_53, tz_49_56, hu, h0, h1, h2, h3, h4, tw_det]
set_option maxRecDepth 100000 in
theorem tw_p_nodeq (ht : t = 1 ∨ t = 63) (hv : tw_pv N pg) (hC : tw_Ct mi t N pg) (x a w : Int32) : tw_E sc (d + 3) 5 0 [some (.ref 0), some (.int x), some (.int a), some (.int w), none] [] tw_g0 mi (tw_r0 t s i) Q = Q (some (.int (tw_nq N pg x a w))) tw_g0 mi (tw_r0 t s i) := by
  obtain ⟨hN, h1, hn⟩ := hC
  rcases tw_ixc x (T := N) (by omega) with ⟨c1, c2⟩ | ⟨c1, c2, c3, c4⟩ | ⟨j, hj, rfl, c1, c2, c3, c4, c5⟩
  · simp only [tz_5_0, tz_5_1, tz_5_4, tz_5_5, tz_5_8, tz_5_8n, tz_5_10, tz_5_10n, tz_5_12, tz_5_12n, tz_5_15, tz_5_16, tz_5_17, tz_5_18, tz_5_21, tz_5_22, tz_5_24, tz_5_27, tz_5_28, tz_5_31, tz_5_32, tz_5_33, tz_5_36, tz_5_38, tz_5_39, tz_5_39n, tz_5_41, tz_5_42, tz_5_45, tz_5_48, tz_5_48n, tz_5_50, tz_5_51, tz_5_54, tz_5_57, tz_5_59, tz_39_0, tz_39_1, tz_39_4, tz_39_5, tz_39_6, tz_39_9, tz_39_12, tz_39_13, tz_39_16, tz_39_17, tz_39_18, tz_39_21, tz_39_22, tz_39_22n, tk_0, tq_0_0, tq_0_1, tq_0_2, tq_0_3, tq_0_4, tq_0_5, tq_0_6, tq_t, tq_s, tw_va_s, tw_va_n, tw_K_s, tw_K_n, and_true, true_and, and_false, false_and, true_or, or_true, not_true_eq_false, not_false_eq_true, ↓reduceIte, Nat.reduceEqDiff, tw_tk ht, h1, tw_nq, tw_get, c1, c2]
  · simp only [tz_5_0, tz_5_1, tz_5_4, tz_5_5, tz_5_8, tz_5_8n, tz_5_10, tz_5_10n, tz_5_12, tz_5_12n, tz_5_15, tz_5_16, tz_5_17, tz_5_18, tz_5_21, tz_5_22, tz_5_24, tz_5_27, tz_5_28, tz_5_31, tz_5_32, tz_5_33, tz_5_36, tz_5_38, tz_5_39, tz_5_39n, tz_5_41, tz_5_42, tz_5_45, tz_5_48, tz_5_48n, tz_5_50, tz_5_51, tz_5_54, tz_5_57, tz_5_59, tz_39_0, tz_39_1, tz_39_4, tz_39_5, tz_39_6, tz_39_9, tz_39_12, tz_39_13, tz_39_16, tz_39_17, tz_39_18, tz_39_21, tz_39_22, tz_39_22n, tk_0, tq_0_0, tq_0_1, tq_0_2, tq_0_3, tq_0_4, tq_0_5, tq_0_6, tq_t, tq_s, tw_va_s, tw_va_n, tw_K_s, tw_K_n, and_true, true_and, and_false, false_and, true_or, or_true, not_true_eq_false, not_false_eq_true, ↓reduceIte, Nat.reduceEqDiff, tw_tk ht, h1, tw_nq, tw_get, c1, c2, c4]
  · obtain ⟨n0, n1, n2, n3, n4⟩ := hn j hj
    have h7 := (hv.2 j hj).1
    simp only [tz_5_0, tz_5_1, tz_5_4, tz_5_5, tz_5_8, tz_5_8n, tz_5_10, tz_5_10n, tz_5_12, tz_5_12n, tz_5_15, tz_5_16, tz_5_17, tz_5_18, tz_5_21, tz_5_22, tz_5_24, tz_5_27, tz_5_28, tz_5_31, tz_5_32, tz_5_33, tz_5_36, tz_5_38, tz_5_39, tz_5_39n, tz_5_41, tz_5_42, tz_5_45, tz_5_48, tz_5_48n, tz_5_50, tz_5_51, tz_5_54, tz_5_57, tz_5_59, tz_39_0, tz_39_1, tz_39_4, tz_39_5, tz_39_6, tz_39_9, tz_39_12, tz_39_13, tz_39_16, tz_39_17, tz_39_18, tz_39_21, tz_39_22, tz_39_22n, tk_0, tq_0_0, tq_0_1, tq_0_2, tq_0_3, tq_0_4, tq_0_5, tq_0_6, tq_t, tq_s, tw_va_s, tw_va_n, tw_K_s, tw_K_n, and_true, true_and, and_false, false_and, true_or, or_true, not_true_eq_false, not_false_eq_true, ↓reduceIte, Nat.reduceEqDiff, tw_tk ht, h1, tw_nq, tw_get, c1, c2, c4, c5, tw_tq ht, tw_tk1 ht, tw_tj1 ht, tw_tq1 ht t s i (show j < 60 by omega), tw_tk2 ht (show j < 60 by omega), vp_in_nI (show j < 60 by omega) (by omega)]
    by_cases hg : (0 ≤ a ∧ a ≤ 8) ∧ (0 ≤ w ∧ w ≤ 4)
    · rw [if_pos hg]
      obtain ⟨⟨g1, g2⟩, g3, g4⟩ := hg
      obtain ⟨b, _, hb, rfl⟩ := tw_rng (lo := 0) (hi := 8) (by omega) (by omega) g1 g2
      obtain ⟨q, _, hq, rfl⟩ := tw_rng (lo := 0) (hi := 4) (by omega) (by omega) g3 g4
      rw [if_neg (nI_pos (by omega)), if_neg (Int32.not_lt.mpr g2), if_neg (nI_pos (by omega)), if_pos g4, tw_p_isOf (tw_tk2 ht (by omega)) n0 h7 hb, nI_clamp (show b < 2 ^ 31 by omega), nI_clamp (show q < 2 ^ 31 by omega)]
      simp only [tz_5_0, tz_5_1, tz_5_4, tz_5_5, tz_5_8, tz_5_8n, tz_5_10, tz_5_10n, tz_5_12, tz_5_12n, tz_5_15, tz_5_16, tz_5_17, tz_5_18, tz_5_21, tz_5_22, tz_5_24, tz_5_27, tz_5_28, tz_5_31, tz_5_32, tz_5_33, tz_5_36, tz_5_38, tz_5_39, tz_5_39n, tz_5_41, tz_5_42, tz_5_45, tz_5_48, tz_5_48n, tz_5_50, tz_5_51, tz_5_54, tz_5_57, tz_5_59, tw_va_s, tw_va_n, tw_K_s, tw_K_n, and_true, true_and, and_false, false_and, true_or, or_true, not_true_eq_false, not_false_eq_true, ↓reduceIte, Nat.reduceEqDiff, tw_tk2 ht (show j < 60 by omega)]
      by_cases hi : tw_isof (pg j).1 b
      · simp only [hi, ↓reduceIte, show ¬ (1 : Int32) = 0 by decide]
        rw [tw_p_detail (tw_tk2 ht (by omega)) n0 n1 n2 n3 n4 hq]
        simp only [tz_5_0, tz_5_1, tz_5_4, tz_5_5, tz_5_8, tz_5_8n, tz_5_10, tz_5_10n, tz_5_12, tz_5_12n, tz_5_15, tz_5_16, tz_5_17, tz_5_18, tz_5_21, tz_5_22, tz_5_24, tz_5_27, tz_5_28, tz_5_31, tz_5_32, tz_5_33, tz_5_36, tz_5_38, tz_5_39, tz_5_39n, tz_5_41, tz_5_42, tz_5_45, tz_5_48, tz_5_48n, tz_5_50, tz_5_51, tz_5_54, tz_5_57, tz_5_59, tw_va_s, tw_va_n, tw_K_s, tw_K_n, and_true, true_and, and_false, false_and, true_or, or_true, not_true_eq_false, not_false_eq_true, ↓reduceIte, Nat.reduceEqDiff]
      · simp only [hi, ↓reduceIte]
    · rw [if_neg hg]
      by_cases g1 : a < 0
      · rw [if_pos g1]
      rw [if_neg g1]
      by_cases g2 : (8 : Int32) < a
      · rw [if_pos g2]
      rw [if_neg g2]
      by_cases g3 : w < 0
      · rw [if_pos g3]
      rw [if_neg g3]
      by_cases g4 : w ≤ 4
      · exact absurd ⟨⟨Int32.not_lt.mp g1, Int32.not_lt.mp g2⟩, Int32.not_lt.mp g3, g4⟩ hg
      rw [if_neg g4]
set_option maxRecDepth 100000 in
theorem tw_q_nodeq (hv : tw_pv N pg) (hC : tw_Mt2 mi N pg) (x a w : Int32) : tw_E sc (d + 1) 144 0 [some (.ref 139), some (.int x), some (.int a), some (.int w), none] [] tw_g0 mi (tw_r0 t s i) Q = Q (some (.int (tw_nq N pg x a w))) tw_g0 (tw_th mi) (tw_r0 t s i) := by
  obtain ⟨hN, h1, hn⟩ := hC
  have e5 : tw_th mi 139 5 = mi 139 5 := tw_th_x mi (by decide)
  have e141 : tw_th mi 141 = mi 141 := tw_th_a mi (by decide)
  have e142 : tw_th mi 142 = mi 142 := tw_th_a mi (by decide)
  have e143 : tw_th mi 143 = mi 143 := tw_th_a mi (by decide)
  have e144 : tw_th mi 144 = mi 144 := tw_th_a mi (by decide)
  have e145 : tw_th mi 145 = mi 145 := tw_th_a mi (by decide)
  rw [tz_144_0, tz_144_1, tz_144_2]
  rw [show tw_st mi 139 (tw_st (mi 139) 0 0) = tw_th mi from rfl, show (tw_kd tw_g0 139 = 10) = True from by simp [tk_139], true_and]
  simp only [tz_144_0, tz_144_1, tz_144_2, tz_144_5, tz_144_6, tz_144_7, tz_144_8, tz_144_9, tz_144_12, tz_144_13, tz_144_14, tz_144_15, tz_144_18, tz_144_21, tz_144_22, tz_144_23, tz_144_24, tz_144_25, tz_144_26, tz_144_29, tz_144_32, tz_144_35, tz_144_36, tz_144_37, tz_144_38, tz_144_41, tz_144_44, tz_144_47, tz_144_49, tz_144_50, tz_144_51, tz_144_53, tz_144_56, tz_144_57, tz_144_58, tz_144_61, tz_144_62, tz_144_63, tz_144_66, tz_144_67, tz_144_70, tz_144_71, tz_144_74, tz_144_75, tz_144_76, tz_144_77, tz_144_80, tz_144_81, tz_144_83, tz_144_86, tz_144_87, tz_144_90, tz_144_91, tz_144_92, tz_144_94, tz_144_97, tz_144_98, tz_144_101, tz_144_102, tz_144_104, tz_144_106, tz_144_109, tz_144_111, tz_144_112, tz_144_113, tz_144_116, tz_144_117, tz_144_120, tz_144_121, tz_144_122, tz_144_125, tz_144_126, tz_144_127, tz_144_130, tz_144_131, tz_144_134, tz_144_135, tz_144_136, tz_144_139, tz_144_140, tz_144_141, tz_144_144, tz_144_145, tz_144_148, tz_144_149, tz_144_150, tz_144_153, tz_144_154, tz_144_155, tz_144_158, tz_144_159, tz_144_162, tz_144_163, tz_144_164, tz_144_167, tz_144_168, tz_144_171, tz_144_172, tz_144_173, tk_139, tq_139_1, tq_139_6, tq_139_7, tq_139_8, tq_139_9, tq_139_10, tq_139_12, tq_139_13, tq_139_14, tq_139_15, tq_139_16, tq_139_17, tq_139_18, tq_139_19, tq_139_21, tq_139_22, tq_139_24, tq_139_26, tq_139_27, tq_139_28, tq_139_34, tq_139_35, tq_139_36, tq_139_37, tw_va_s, tw_va_n, tw_K_s, tw_K_n, and_true, true_and, and_false, false_and, true_or, or_true, not_true_eq_false, not_false_eq_true, ↓reduceIte, Nat.reduceEqDiff, tw_L0, tw_L4, tw_L8, tw_q_in, e5, h1, tw_inT (show N < 2 ^ 31 by omega), tw_b0]
  rcases tw_ixc x (T := N) (by omega) with ⟨c1, c2⟩ | ⟨c1, c2, c3, c4⟩ | ⟨j, hj, rfl, c1, c2, c3, c4, c5⟩
  · simp only [tw_nq, tw_get, c2]
    simp
  · simp only [tw_nq, tw_get, c4]
    simp
  · obtain ⟨n0, n1, n2, n3, n4⟩ := hn j hj
    have h7 := (hv.2 j hj).1
    have vj : vp_in (nI j) 64 := vp_in_nI (show j < 64 by omega) (by omega)
    simp only [tw_nq, tw_get, c4, c5, tk_141, tj_141, tk_142, tj_142, tk_143, tj_143, tk_144, tj_144, tk_145, tj_145, tw_va_s, tw_va_n, tw_K_s, tw_K_n, and_true, true_and, and_false, false_and, true_or, or_true, not_true_eq_false, not_false_eq_true, ↓reduceIte, Nat.reduceEqDiff, e141, e142, e143, e144, e145, n0, n1, n2, n3, n4, vj, and_self]
    by_cases g1 : 0 ≤ a ∧ a ≤ 8
    · by_cases g2 : 0 ≤ w ∧ w ≤ 4
      · obtain ⟨b, _, hb, rfl⟩ := tw_rng (lo := 0) (hi := 8) (by omega) (by omega) g1.1 g1.2
        obtain ⟨q, _, hq, rfl⟩ := tw_rng (lo := 0) (hi := 4) (by omega) (by omega) g2.1 g2.2
        have a0 : (nI b = 0) = (b = 0) := propext (nI_eq (b := 0) (by omega) (by omega))
        have a6 : (nI b = 6) = (b = 6) := propext (nI_eq (b := 6) (by omega) (by omega))
        have a8 : (nI b = 8) = (b = 8) := propext (nI_eq (b := 8) (by omega) (by omega))
        have k1 : (nI (pg j).1 = 1) = ((pg j).1 = 1) := propext (nI_eq (b := 1) (by omega) (by omega))
        have k7 : (nI (pg j).1 = 7) = ((pg j).1 = 7) := propext (nI_eq (b := 7) (by omega) (by omega))
        have kb : (nI b = nI (pg j).1) = (b = (pg j).1) := propext (nI_eq (by omega) (by omega))
        have w0 : (nI q = 0) = (q = 0) := propext (nI_eq (b := 0) (by omega) (by omega))
        have w1 : (nI q = 1) = (q = 1) := propext (nI_eq (b := 1) (by omega) (by omega))
        have w2 : (nI q = 2) = (q = 2) := propext (nI_eq (b := 2) (by omega) (by omega))
        have w3 : (nI q = 3) = (q = 3) := propext (nI_eq (b := 3) (by omega) (by omega))
        simp only [g1, g2, and_self, not_true_eq_false, not_false_eq_true, ↓reduceIte, a0, a6, a8, k1, k7, kb, w0, w1, w2, w3, show ¬ (1 : Int32) = 0 by decide, nI_clamp (show b < 2 ^ 31 by omega), nI_clamp (show q < 2 ^ 31 by omega)]
        have hd : ∀ z : Prop, (Q (some (.int (tw_det (pg j) q))) tw_g0 (tw_th mi) (tw_r0 t s i) = z) → z = Q (some (.int (tw_det (pg j) q))) tw_g0 (tw_th mi) (tw_r0 t s i) := fun z e => e.symm
        by_cases hi : tw_isof (pg j).1 b
        · rw [if_pos hi]
          unfold tw_det
          unfold tw_isof at hi
          by_cases q1 : b = 8
          · simp only [q1, ↓reduceIte]
            by_cases z0 : q = 0 <;> by_cases z1 : q = 1 <;> by_cases z2 : q = 2 <;> by_cases z3 : q = 3 <;> simp [z0, z1, z2, z3]
          by_cases q2 : b = (pg j).1
          · simp only [q1, q2, ↓reduceIte]
            by_cases z0 : q = 0 <;> by_cases z1 : q = 1 <;> by_cases z2 : q = 2 <;> by_cases z3 : q = 3 <;> simp [z0, z1, z2, z3]
          rcases (show (b = 0 ∧ (pg j).1 = 1) ∨ (b = 6 ∧ (pg j).1 = 7) by omega) with ⟨q3, q4⟩ | ⟨q3, q4⟩
          · simp only [q3, q4, ↓reduceIte]
            by_cases z0 : q = 0 <;> by_cases z1 : q = 1 <;> by_cases z2 : q = 2 <;> by_cases z3 : q = 3 <;> simp [z0, z1, z2, z3]
          · simp only [q3, q4, ↓reduceIte]
            by_cases z0 : q = 0 <;> by_cases z1 : q = 1 <;> by_cases z2 : q = 2 <;> by_cases z3 : q = 3 <;> simp [z0, z1, z2, z3]
        · rw [if_neg hi]
          unfold tw_isof at hi
          have q1 : ¬ b = 8 := by omega
          have q2 : ¬ b = (pg j).1 := by omega
          by_cases q3 : b = 0
          · have q4 : ¬ (pg j).1 = 1 := by omega
            have q5 : ¬ b = 6 := by omega
            rw [if_neg q1, if_neg q2, if_neg (fun z => z q3), if_neg q4, if_pos q5]
          · by_cases q5 : b = 6
            · have q4 : ¬ (pg j).1 = 7 := by omega
              rw [if_neg q1, if_neg q2, if_pos q3, if_neg (fun z => z q5), if_pos q4]
            · simp [q1, q2, q3, q5]
      · simp [g1, g2]
    · simp [g1]
end tw_node2
section tw_total
variable {sc : Nat × (Nat → Int32)} {d t s i N C M n : Nat} {mi : tw_I} {Q : Option Value → tw_G → tw_I → tw_Q → Prop} {S : tw_Hs}
set_option maxRecDepth 100000 in
theorem tw_p_total (ht : t = 1 ∨ t = 63) (h0 : mi t 1 = nI N) (h1 : mi 128 2 = nI S.1) (h2 : mi 128 3 = nI (tw_cn S.2.2.1 S.1)) (h3 : mi 131 1 = nI C) (h4 : mi 133 3 = nI M) (h5 : mi 125 1 = nI n) (w : Int32) : tw_E sc (d + 1) 23 0 [some (.ref 0), some (.int w)] [] tw_g0 mi (tw_r0 t s i) Q = Q (some (.int (tw_tot N S C M n w))) tw_g0 mi (tw_r0 t s i) := by
  rw [tz_23_0, tz_23_1, tw_sw_6]
  unfold tw_tot
  by_cases w0 : w = 0
  · simp only [tz_23_0, tz_23_1, tz_23_40, tz_23_41, tz_23_44, tz_23_47, tz_23_48, tz_23_49, tz_23_52, tz_23_55, tz_23_56, tz_23_57, tz_23_60, tz_23_63, tz_23_64, tz_23_65, tz_23_68, tz_23_71, tz_23_72, tz_23_73, tz_23_76, tz_23_79, tz_23_80, tz_23_81, tz_23_84, tz_23_87, tz_23_88, tz_23_90, tz_37_0, tz_37_1, tz_37_4, tk_0, tq_0_0, tq_0_1, tq_0_2, tq_0_3, tq_0_4, tq_0_5, tq_0_6, tq_t, tq_s, tw_va_s, tw_va_n, tw_K_s, tw_K_n, and_true, true_and, and_false, false_and, true_or, or_true, not_true_eq_false, not_false_eq_true, ↓reduceIte, Nat.reduceEqDiff, tw_tk ht, h0, w0]
  by_cases w1 : w = 1
  · simp only [tz_23_0, tz_23_1, tz_23_40, tz_23_41, tz_23_44, tz_23_47, tz_23_48, tz_23_49, tz_23_52, tz_23_55, tz_23_56, tz_23_57, tz_23_60, tz_23_63, tz_23_64, tz_23_65, tz_23_68, tz_23_71, tz_23_72, tz_23_73, tz_23_76, tz_23_79, tz_23_80, tz_23_81, tz_23_84, tz_23_87, tz_23_88, tz_23_90, tz_90_0, tz_90_1, tz_90_4, tk_0, tq_0_0, tq_0_1, tq_0_2, tq_0_3, tq_0_4, tq_0_5, tq_0_6, tq_t, tq_s, tk_128, tq_128_0, tq_128_1, tw_va_s, tw_va_n, tw_K_s, tw_K_n, and_true, true_and, and_false, false_and, true_or, or_true, not_true_eq_false, not_false_eq_true, ↓reduceIte, Nat.reduceEqDiff, h1, w1, show ¬ (1 : Int32) = 0 by decide]
  by_cases w2 : w = 2
  · simp only [tz_23_0, tz_23_1, tz_23_40, tz_23_41, tz_23_44, tz_23_47, tz_23_48, tz_23_49, tz_23_52, tz_23_55, tz_23_56, tz_23_57, tz_23_60, tz_23_63, tz_23_64, tz_23_65, tz_23_68, tz_23_71, tz_23_72, tz_23_73, tz_23_76, tz_23_79, tz_23_80, tz_23_81, tz_23_84, tz_23_87, tz_23_88, tz_23_90, tz_91_0, tz_91_1, tz_91_4, tk_0, tq_0_0, tq_0_1, tq_0_2, tq_0_3, tq_0_4, tq_0_5, tq_0_6, tq_t, tq_s, tk_128, tq_128_0, tq_128_1, tw_va_s, tw_va_n, tw_K_s, tw_K_n, and_true, true_and, and_false, false_and, true_or, or_true, not_true_eq_false, not_false_eq_true, ↓reduceIte, Nat.reduceEqDiff, h2, w2, show ¬ (2 : Int32) = 0 by decide, show ¬ (2 : Int32) = 1 by decide]
  by_cases w3 : w = 3
  · simp only [tz_23_0, tz_23_1, tz_23_40, tz_23_41, tz_23_44, tz_23_47, tz_23_48, tz_23_49, tz_23_52, tz_23_55, tz_23_56, tz_23_57, tz_23_60, tz_23_63, tz_23_64, tz_23_65, tz_23_68, tz_23_71, tz_23_72, tz_23_73, tz_23_76, tz_23_79, tz_23_80, tz_23_81, tz_23_84, tz_23_87, tz_23_88, tz_23_90, tz_101_0, tz_101_1, tz_101_4, tk_0, tq_0_0, tq_0_1, tq_0_2, tq_0_3, tq_0_4, tq_0_5, tq_0_6, tq_t, tq_s, tk_131, tq_131_0, tw_va_s, tw_va_n, tw_K_s, tw_K_n, and_true, true_and, and_false, false_and, true_or, or_true, not_true_eq_false, not_false_eq_true, ↓reduceIte, Nat.reduceEqDiff, h3, w3, show ¬ (3 : Int32) = 0 by decide, show ¬ (3 : Int32) = 1 by decide, show ¬ (3 : Int32) = 2 by decide]
  by_cases w4 : w = 4
  · simp only [tz_23_0, tz_23_1, tz_23_40, tz_23_41, tz_23_44, tz_23_47, tz_23_48, tz_23_49, tz_23_52, tz_23_55, tz_23_56, tz_23_57, tz_23_60, tz_23_63, tz_23_64, tz_23_65, tz_23_68, tz_23_71, tz_23_72, tz_23_73, tz_23_76, tz_23_79, tz_23_80, tz_23_81, tz_23_84, tz_23_87, tz_23_88, tz_23_90, tz_110_0, tz_110_1, tz_110_4, tk_0, tq_0_0, tq_0_1, tq_0_2, tq_0_3, tq_0_4, tq_0_5, tq_0_6, tq_t, tq_s, tk_133, tq_133_0, tq_133_1, tq_133_2, tw_va_s, tw_va_n, tw_K_s, tw_K_n, and_true, true_and, and_false, false_and, true_or, or_true, not_true_eq_false, not_false_eq_true, ↓reduceIte, Nat.reduceEqDiff, h4, w4, show ¬ (4 : Int32) = 0 by decide, show ¬ (4 : Int32) = 1 by decide, show ¬ (4 : Int32) = 2 by decide, show ¬ (4 : Int32) = 3 by decide]
  by_cases w5 : w = 5
  · simp only [tz_23_0, tz_23_1, tz_23_40, tz_23_41, tz_23_44, tz_23_47, tz_23_48, tz_23_49, tz_23_52, tz_23_55, tz_23_56, tz_23_57, tz_23_60, tz_23_63, tz_23_64, tz_23_65, tz_23_68, tz_23_71, tz_23_72, tz_23_73, tz_23_76, tz_23_79, tz_23_80, tz_23_81, tz_23_84, tz_23_87, tz_23_88, tz_23_90, tz_61_0, tz_61_1, tz_61_4, tk_0, tq_0_0, tq_0_1, tq_0_2, tq_0_3, tq_0_4, tq_0_5, tq_0_6, tq_t, tq_s, tk_125, tq_125_0, tw_va_s, tw_va_n, tw_K_s, tw_K_n, and_true, true_and, and_false, false_and, true_or, or_true, not_true_eq_false, not_false_eq_true, ↓reduceIte, Nat.reduceEqDiff, h5, w5, show ¬ (5 : Int32) = 0 by decide, show ¬ (5 : Int32) = 1 by decide, show ¬ (5 : Int32) = 2 by decide, show ¬ (5 : Int32) = 3 by decide, show ¬ (5 : Int32) = 4 by decide]
  simp only [tz_23_0, tz_23_1, tz_23_40, tz_23_41, tz_23_44, tz_23_47, tz_23_48, tz_23_49, tz_23_52, tz_23_55, tz_23_56, tz_23_57, tz_23_60, tz_23_63, tz_23_64, tz_23_65, tz_23_68, tz_23_71, tz_23_72, tz_23_73, tz_23_76, tz_23_79, tz_23_80, tz_23_81, tz_23_84, tz_23_87, tz_23_88, tz_23_90, tw_va_s, tw_va_n, tw_K_s, tw_K_n, and_true, true_and, and_false, false_and, true_or, or_true, not_true_eq_false, not_false_eq_true, ↓reduceIte, Nat.reduceEqDiff, w0, w1, w2, w3, w4, w5]
set_option maxRecDepth 100000 in
theorem tw_q_totall (hS : S.1 ≤ 4000) (h1 : mi 139 20 = nI S.1) (h2 : ∀ j, j < S.1 → mi 155 j = S.2.2.1 j) (w : Int32)
    (hQ : tw_E sc d 173 40 [some (.ref 139), some (.int w), some (.int (nI (tw_cn S.2.2.1 S.1))), some (.int (nI S.1))] [] tw_g0 mi (tw_r0 t s i) Q) : ∀ f k, S.1 = k + f → 
    tw_E sc d 173 9 [some (.ref 139), some (.int w), some (.int (nI (tw_cn S.2.2.1 k))), some (.int (nI k))] [] tw_g0 mi (tw_r0 t s i) Q := by
  intro f
  induction f with
  | zero =>
    intro k hk
    obtain rfl : S.1 = k := by omega
    rw [tz_173_9]
    simp only [tz_173_10, tz_173_11, tz_173_14, tk_139, tq_139_1, tq_139_6, tq_139_7, tq_139_8, tq_139_9, tq_139_10, tq_139_12, tq_139_13, tq_139_14, tq_139_15, tq_139_16, tq_139_17, tq_139_18, tq_139_19, tq_139_21, tq_139_22, tq_139_24, tq_139_26, tq_139_27, tq_139_28, tq_139_34, tq_139_35, tq_139_36, tq_139_37, tw_va_s, tw_va_n, tw_K_s, tw_K_n, and_true, true_and, and_false, false_and, true_or, or_true, not_true_eq_false, not_false_eq_true, ↓reduceIte, Nat.reduceEqDiff, h1]
    rw [tw_le_t (by omega) (by omega)]
    exact hQ
  | succ f ih =>
    intro k hk
    have := ih (k + 1) (by omega)
    rw [tz_173_9]
    simp only [tz_173_0, tz_173_1, tz_173_2, tz_173_5, tz_173_6, tz_173_7, tz_173_8, tz_173_10, tz_173_11, tz_173_14, tz_173_17, tz_173_18, tz_173_19, tz_173_22, tz_173_23, tz_173_24, tz_173_27, tz_173_28, tz_173_31, tz_173_32, tz_173_33, tz_173_34, tz_173_37, tz_173_40, tz_173_41, tz_173_80, tz_173_81, tz_173_84, tz_173_85, tz_173_86, tz_173_89, tz_173_90, tz_173_91, tz_173_92, tz_173_93, tz_173_96, tz_173_97, tz_173_98, tz_173_101, tz_173_102, tz_173_103, tz_173_106, tz_173_107, tz_173_109, tk_139, tq_139_1, tq_139_6, tq_139_7, tq_139_8, tq_139_9, tq_139_10, tq_139_12, tq_139_13, tq_139_14, tq_139_15, tq_139_16, tq_139_17, tq_139_18, tq_139_19, tq_139_21, tq_139_22, tq_139_24, tq_139_26, tq_139_27, tq_139_28, tq_139_34, tq_139_35, tq_139_36, tq_139_37, tk_155, tj_155, tw_va_s, tw_va_n, tw_K_s, tw_K_n, and_true, true_and, and_false, false_and, true_or, or_true, not_true_eq_false, not_false_eq_true, ↓reduceIte, Nat.reduceEqDiff, h1, h2 k (by omega), nI_clamp (show k < 2 ^ 31 by omega), vp_in_nI (show k < 4000 by omega) (by omega)]
    rw [tw_le_f (by omega) (by omega)]
    simp only [tw_cn] at this
    by_cases hz : S.2.2.1 k = 0
    · simp only [hz, ↓reduceIte, Int32.add_zero, nI_1, Nat.add_zero] at this ⊢
      exact this
    · simp only [hz, ↓reduceIte, nI_1] at this ⊢
      exact this
set_option maxRecDepth 100000 in
theorem tw_q_total (h0 : mi 139 5 = nI N) (hS : S.1 ≤ 4000) (h1 : mi 139 20 = nI S.1) (h2 : ∀ j, j < S.1 → mi 155 j = S.2.2.1 j) (h3 : mi 139 23 = nI C) (h4 : mi 139 25 = nI M) (h5 : mi 139 2 = nI n) (w : Int32)
    (hQ : Q (some (.int (tw_tot N S C M n w))) tw_g0 (tw_th mi) (tw_r0 t s i)) : tw_E sc d 173 0 [some (.ref 139), some (.int w), none, none] [] tw_g0 mi (tw_r0 t s i) Q := by
  rw [tz_173_0, tz_173_1, tz_173_2]
  rw [show tw_st mi 139 (tw_st (mi 139) 0 0) = tw_th mi from rfl]
  refine ⟨tk_139, ?_⟩
  have e5 : tw_th mi 139 5 = mi 139 5 := tw_th_x mi (by decide)
  have e2 : tw_th mi 139 2 = mi 139 2 := tw_th_x mi (by decide)
  have e20 : tw_th mi 139 20 = mi 139 20 := tw_th_x mi (by decide)
  have e23 : tw_th mi 139 23 = mi 139 23 := tw_th_x mi (by decide)
  have e25 : tw_th mi 139 25 = mi 139 25 := tw_th_x mi (by decide)
  have e155 : tw_th mi 155 = mi 155 := tw_th_a mi (by decide)
  rw [tz_173_5, tz_173_6, tz_173_7, tz_173_8]
  refine tw_q_totall (mi := tw_th mi) hS (by rw [e20]; exact h1) (fun j hj => by rw [e155]; exact h2 j hj) w ?_ S.1 0 (by omega)
  rw [tz_173_40, tz_173_41, tw_sw_6]
  unfold tw_tot at hQ
  by_cases w0 : w = 0
  · simp only [tz_173_0, tz_173_1, tz_173_2, tz_173_5, tz_173_6, tz_173_7, tz_173_8, tz_173_10, tz_173_11, tz_173_14, tz_173_17, tz_173_18, tz_173_19, tz_173_22, tz_173_23, tz_173_24, tz_173_27, tz_173_28, tz_173_31, tz_173_32, tz_173_33, tz_173_34, tz_173_37, tz_173_40, tz_173_41, tz_173_80, tz_173_81, tz_173_84, tz_173_85, tz_173_86, tz_173_89, tz_173_90, tz_173_91, tz_173_92, tz_173_93, tz_173_96, tz_173_97, tz_173_98, tz_173_101, tz_173_102, tz_173_103, tz_173_106, tz_173_107, tz_173_109, tk_139, tq_139_1, tq_139_6, tq_139_7, tq_139_8, tq_139_9, tq_139_10, tq_139_12, tq_139_13, tq_139_14, tq_139_15, tq_139_16, tq_139_17, tq_139_18, tq_139_19, tq_139_21, tq_139_22, tq_139_24, tq_139_26, tq_139_27, tq_139_28, tq_139_34, tq_139_35, tq_139_36, tq_139_37, tw_va_s, tw_va_n, tw_K_s, tw_K_n, and_true, true_and, and_false, false_and, true_or, or_true, not_true_eq_false, not_false_eq_true, ↓reduceIte, Nat.reduceEqDiff, e5, h0, w0] at hQ ⊢
    exact hQ
  by_cases w1 : w = 1
  · simp only [tz_173_0, tz_173_1, tz_173_2, tz_173_5, tz_173_6, tz_173_7, tz_173_8, tz_173_10, tz_173_11, tz_173_14, tz_173_17, tz_173_18, tz_173_19, tz_173_22, tz_173_23, tz_173_24, tz_173_27, tz_173_28, tz_173_31, tz_173_32, tz_173_33, tz_173_34, tz_173_37, tz_173_40, tz_173_41, tz_173_80, tz_173_81, tz_173_84, tz_173_85, tz_173_86, tz_173_89, tz_173_90, tz_173_91, tz_173_92, tz_173_93, tz_173_96, tz_173_97, tz_173_98, tz_173_101, tz_173_102, tz_173_103, tz_173_106, tz_173_107, tz_173_109, tk_139, tq_139_1, tq_139_6, tq_139_7, tq_139_8, tq_139_9, tq_139_10, tq_139_12, tq_139_13, tq_139_14, tq_139_15, tq_139_16, tq_139_17, tq_139_18, tq_139_19, tq_139_21, tq_139_22, tq_139_24, tq_139_26, tq_139_27, tq_139_28, tq_139_34, tq_139_35, tq_139_36, tq_139_37, tw_va_s, tw_va_n, tw_K_s, tw_K_n, and_true, true_and, and_false, false_and, true_or, or_true, not_true_eq_false, not_false_eq_true, ↓reduceIte, Nat.reduceEqDiff, e20, h1, w1, show ¬ (1 : Int32) = 0 by decide] at hQ ⊢
    exact hQ
  by_cases w2 : w = 2
  · simp only [tz_173_0, tz_173_1, tz_173_2, tz_173_5, tz_173_6, tz_173_7, tz_173_8, tz_173_10, tz_173_11, tz_173_14, tz_173_17, tz_173_18, tz_173_19, tz_173_22, tz_173_23, tz_173_24, tz_173_27, tz_173_28, tz_173_31, tz_173_32, tz_173_33, tz_173_34, tz_173_37, tz_173_40, tz_173_41, tz_173_80, tz_173_81, tz_173_84, tz_173_85, tz_173_86, tz_173_89, tz_173_90, tz_173_91, tz_173_92, tz_173_93, tz_173_96, tz_173_97, tz_173_98, tz_173_101, tz_173_102, tz_173_103, tz_173_106, tz_173_107, tz_173_109, tk_139, tq_139_1, tq_139_6, tq_139_7, tq_139_8, tq_139_9, tq_139_10, tq_139_12, tq_139_13, tq_139_14, tq_139_15, tq_139_16, tq_139_17, tq_139_18, tq_139_19, tq_139_21, tq_139_22, tq_139_24, tq_139_26, tq_139_27, tq_139_28, tq_139_34, tq_139_35, tq_139_36, tq_139_37, tw_va_s, tw_va_n, tw_K_s, tw_K_n, and_true, true_and, and_false, false_and, true_or, or_true, not_true_eq_false, not_false_eq_true, ↓reduceIte, Nat.reduceEqDiff, w2, show ¬ (2 : Int32) = 0 by decide, show ¬ (2 : Int32) = 1 by decide] at hQ ⊢
    exact hQ
  by_cases w3 : w = 3
  · simp only [tz_173_0, tz_173_1, tz_173_2, tz_173_5, tz_173_6, tz_173_7, tz_173_8, tz_173_10, tz_173_11, tz_173_14, tz_173_17, tz_173_18, tz_173_19, tz_173_22, tz_173_23, tz_173_24, tz_173_27, tz_173_28, tz_173_31, tz_173_32, tz_173_33, tz_173_34, tz_173_37, tz_173_40, tz_173_41, tz_173_80, tz_173_81, tz_173_84, tz_173_85, tz_173_86, tz_173_89, tz_173_90, tz_173_91, tz_173_92, tz_173_93, tz_173_96, tz_173_97, tz_173_98, tz_173_101, tz_173_102, tz_173_103, tz_173_106, tz_173_107, tz_173_109, tk_139, tq_139_1, tq_139_6, tq_139_7, tq_139_8, tq_139_9, tq_139_10, tq_139_12, tq_139_13, tq_139_14, tq_139_15, tq_139_16, tq_139_17, tq_139_18, tq_139_19, tq_139_21, tq_139_22, tq_139_24, tq_139_26, tq_139_27, tq_139_28, tq_139_34, tq_139_35, tq_139_36, tq_139_37, tw_va_s, tw_va_n, tw_K_s, tw_K_n, and_true, true_and, and_false, false_and, true_or, or_true, not_true_eq_false, not_false_eq_true, ↓reduceIte, Nat.reduceEqDiff, e23, h3, w3, show ¬ (3 : Int32) = 0 by decide, show ¬ (3 : Int32) = 1 by decide, show ¬ (3 : Int32) = 2 by decide] at hQ ⊢
    exact hQ
  by_cases w4 : w = 4
  · simp only [tz_173_0, tz_173_1, tz_173_2, tz_173_5, tz_173_6, tz_173_7, tz_173_8, tz_173_10, tz_173_11, tz_173_14, tz_173_17, tz_173_18, tz_173_19, tz_173_22, tz_173_23, tz_173_24, tz_173_27, tz_173_28, tz_173_31, tz_173_32, tz_173_33, tz_173_34, tz_173_37, tz_173_40, tz_173_41, tz_173_80, tz_173_81, tz_173_84, tz_173_85, tz_173_86, tz_173_89, tz_173_90, tz_173_91, tz_173_92, tz_173_93, tz_173_96, tz_173_97, tz_173_98, tz_173_101, tz_173_102, tz_173_103, tz_173_106, tz_173_107, tz_173_109, tk_139, tq_139_1, tq_139_6, tq_139_7, tq_139_8, tq_139_9, tq_139_10, tq_139_12, tq_139_13, tq_139_14, tq_139_15, tq_139_16, tq_139_17, tq_139_18, tq_139_19, tq_139_21, tq_139_22, tq_139_24, tq_139_26, tq_139_27, tq_139_28, tq_139_34, tq_139_35, tq_139_36, tq_139_37, tw_va_s, tw_va_n, tw_K_s, tw_K_n, and_true, true_and, and_false, false_and, true_or, or_true, not_true_eq_false, not_false_eq_true, ↓reduceIte, Nat.reduceEqDiff, e25, h4, w4, show ¬ (4 : Int32) = 0 by decide, show ¬ (4 : Int32) = 1 by decide, show ¬ (4 : Int32) = 2 by decide, show ¬ (4 : Int32) = 3 by decide] at hQ ⊢
    exact hQ
  by_cases w5 : w = 5
  · simp only [tz_173_0, tz_173_1, tz_173_2, tz_173_5, tz_173_6, tz_173_7, tz_173_8, tz_173_10, tz_173_11, tz_173_14, tz_173_17, tz_173_18, tz_173_19, tz_173_22, tz_173_23, tz_173_24, tz_173_27, tz_173_28, tz_173_31, tz_173_32, tz_173_33, tz_173_34, tz_173_37, tz_173_40, tz_173_41, tz_173_80, tz_173_81, tz_173_84, tz_173_85, tz_173_86, tz_173_89, tz_173_90, tz_173_91, tz_173_92, tz_173_93, tz_173_96, tz_173_97, tz_173_98, tz_173_101, tz_173_102, tz_173_103, tz_173_106, tz_173_107, tz_173_109, tk_139, tq_139_1, tq_139_6, tq_139_7, tq_139_8, tq_139_9, tq_139_10, tq_139_12, tq_139_13, tq_139_14, tq_139_15, tq_139_16, tq_139_17, tq_139_18, tq_139_19, tq_139_21, tq_139_22, tq_139_24, tq_139_26, tq_139_27, tq_139_28, tq_139_34, tq_139_35, tq_139_36, tq_139_37, tw_va_s, tw_va_n, tw_K_s, tw_K_n, and_true, true_and, and_false, false_and, true_or, or_true, not_true_eq_false, not_false_eq_true, ↓reduceIte, Nat.reduceEqDiff, e2, h5, w5, show ¬ (5 : Int32) = 0 by decide, show ¬ (5 : Int32) = 1 by decide, show ¬ (5 : Int32) = 2 by decide, show ¬ (5 : Int32) = 3 by decide, show ¬ (5 : Int32) = 4 by decide] at hQ ⊢
    exact hQ
  simp only [tz_173_0, tz_173_1, tz_173_2, tz_173_5, tz_173_6, tz_173_7, tz_173_8, tz_173_10, tz_173_11, tz_173_14, tz_173_17, tz_173_18, tz_173_19, tz_173_22, tz_173_23, tz_173_24, tz_173_27, tz_173_28, tz_173_31, tz_173_32, tz_173_33, tz_173_34, tz_173_37, tz_173_40, tz_173_41, tz_173_80, tz_173_81, tz_173_84, tz_173_85, tz_173_86, tz_173_89, tz_173_90, tz_173_91, tz_173_92, tz_173_93, tz_173_96, tz_173_97, tz_173_98, tz_173_101, tz_173_102, tz_173_103, tz_173_106, tz_173_107, tz_173_109, tw_va_s, tw_va_n, tw_K_s, tw_K_n, and_true, true_and, and_false, false_and, true_or, or_true, not_true_eq_false, not_false_eq_true, ↓reduceIte, Nat.reduceEqDiff, w0, w1, w2, w3, w4, w5] at hQ ⊢
  exact hQ
end tw_total
