/-! bytes -/
abbrev tw_B : Type := Bool × Bool × Int32 × Int32
def tw_b1 (b : Bool) : Int32 := if b then 1 else 0
/-- the clock stays high: the data are looked at -/
def tw_lk (x y tk : Int32) (B : tw_B) (Z : tw_Km) : tw_B × tw_Km :=
  if x = 1 ∧ y = 0 then ((true, false, 0, 0), tw_ma Z 1 (-9) tk)
  else if x = 0 ∧ y = 1 ∧ B.1 = true then ((false, false, 0, 0), tw_ma (if B.2.2.1 ≤ 0 then Z else tw_ma Z 3 (-9) tk) 2 (-9) tk)
  else (B, Z)
/-- the clock falls -/
def tw_cf (x tk : Int32) (B : tw_B) (Z : tw_Km) : tw_B × tw_Km :=
  if B.1 = true ∧ B.2.1 = true then (if B.2.2.1 + 1 = 8 then ((true, true, 0, 0), tw_ma Z 0 (2 * B.2.2.2 + x) tk) else ((true, true, B.2.2.1 + 1, 2 * B.2.2.2 + x), Z)) else (B, Z)
def tw_bs (c0 c1 x y tk : Int32) (B : tw_B) (Z : tw_Km) : tw_B × tw_Km :=
  if c0 = 1 ∧ c1 = 1 then tw_lk x y tk B Z else if c0 = 1 then tw_cf x tk B Z else if c1 = 1 then ((B.1, true, B.2.2), Z) else (B, Z)
/-- ticks t, t + 1, ..: n of them -/
def tw_byl (sm : Nat → Int32) (c e : Int32) : Nat → Nat → tw_B → tw_Km → tw_Km
  | 0, _, _, Z => Z
  | n + 1, t, B, Z => if Z.1 < 400 then tw_byl sm c e n (t + 1) (tw_bs (tw_bt (sm (t - 1)) c) (tw_bt (sm t) c) (tw_bt (sm (t - 1)) e) (tw_bt (sm t) e) (nI t) B Z).1 (tw_bs (tw_bt (sm (t - 1)) c) (tw_bt (sm t) c) (tw_bt (sm (t - 1)) e) (tw_bt (sm t) e) (nI t) B Z).2 else Z
def tw_byq (S : tw_Hs) (Z : tw_Km) (c e : Int32) : tw_Km × Int32 :=
  if (0 ≤ c ∧ c ≤ 15) ∧ (0 ≤ e ∧ e ≤ 15) then (if c = e then (Z, -2) else (tw_byl S.2.1 c e (S.1 - 1) 1 (false, false, 0, 0) (0, Z.2), nI (tw_byl S.2.1 c e (S.1 - 1) 1 (false, false, 0, 0) (0, Z.2)).1)) else (Z, -1)
def tw_CB (mi : tw_I) (B : tw_B) : Prop := mi 138 2 = tw_b1 B.1 ∧ (B.1 = true → mi 138 3 = tw_b1 B.2.1 ∧ mi 138 4 = B.2.2.1 ∧ mi 138 5 = B.2.2.2)
section tw_bytes
variable {sc : Nat × (Nat → Int32)} {d t s i N k T : Nat} {mi : tw_I} {Q : Option Value → tw_G → tw_I → tw_Q → Prop} {Z : tw_Km} {sm hd : Nat → Int32} {B : tw_B}
set_option maxRecDepth 100000 in
theorem tw_Cm_fr {mi' : tw_I} (hZ : tw_CK mi Z) (h1 : mi' 133 = mi 133) (h2 : mi' 134 = mi 134) (h3 : mi' 135 = mi 135) (h4 : mi' 136 = mi 136) : tw_CK mi' Z := by
  unfold tw_CK tw_Cm at hZ ⊢
  rw [h1, h2, h3, h4]
  exact hZ
set_option maxRecDepth 100000 in
theorem tw_p_look (hZ : tw_CK mi Z) (hB : tw_CB mi B) {x y : Int32} (hx : x = 0 ∨ x = 1) (hy : y = 0 ∨ y = 1) {tk : Nat}
    (hQ : ∀ mi', tw_CB mi' (tw_lk x y (nI tk) B Z).1 → tw_CK mi' (tw_lk x y (nI tk) B Z).2 → (∀ a, a ≠ 133 → a ≠ 134 → a ≠ 135 → a ≠ 136 → a ≠ 138 → mi' a = mi a) → Q none tw_g0 mi' (tw_r0 t s i)) :
    tw_E sc (d + 3) 123 0 [some (.ref 138), some (.int (nI tk)), some (.int x), some (.int y)] [] tw_g0 mi (tw_r0 t s i) Q := by
  obtain ⟨b1, b2⟩ := hB
  have same : Q none tw_g0 mi (tw_r0 t s i) ∨ ¬ tw_lk x y (nI tk) B Z = (B, Z) := by
    by_cases e : tw_lk x y (nI tk) B Z = (B, Z)
    · rw [e] at hQ; exact Or.inl (hQ mi ⟨b1, b2⟩ hZ (fun _ _ _ _ _ _ => rfl))
    · exact Or.inr e
  rcases hx with rfl | rfl <;> rcases hy with rfl | rfl
  · simp only [tz_123_0, tz_123_1, tz_123_2, tz_123_5, tz_123_6, tz_123_9, tz_123_10, tz_123_13, tz_123_14, tz_123_15, tz_123_18, tz_123_19, tz_123_20, tz_123_23, tz_123_24, tz_123_25, tz_123_28, tz_123_29, tz_123_30, tz_123_33, tz_123_34, tz_123_35, tz_123_38, tz_123_41, tz_123_42, tz_123_45, tz_123_46, tz_123_47, tz_123_50, tz_123_51, tz_123_54, tz_123_57, tz_123_58, tz_123_61, tz_123_64, tz_123_65, tz_123_68, tz_123_69, tz_123_70, tz_123_73, tz_123_74, tz_123_77, tz_123_78, tz_123_79, tz_123_82, tz_123_83, tz_123_84, tz_123_87, tk_138, tq_138_0, tq_138_1, tw_va_s, tw_va_n, tw_K_s, tw_K_n, and_true, true_and, and_false, false_and, true_or, or_true, not_true_eq_false, not_false_eq_true, ↓reduceIte, Nat.reduceEqDiff, show ¬ (0 : Int32) = 1 by decide]
    exact same.resolve_right (fun z => z rfl)
  · simp only [tz_123_0, tz_123_1, tz_123_2, tz_123_5, tz_123_6, tz_123_9, tz_123_10, tz_123_13, tz_123_14, tz_123_15, tz_123_18, tz_123_19, tz_123_20, tz_123_23, tz_123_24, tz_123_25, tz_123_28, tz_123_29, tz_123_30, tz_123_33, tz_123_34, tz_123_35, tz_123_38, tz_123_41, tz_123_42, tz_123_45, tz_123_46, tz_123_47, tz_123_50, tz_123_51, tz_123_54, tz_123_57, tz_123_58, tz_123_61, tz_123_64, tz_123_65, tz_123_68, tz_123_69, tz_123_70, tz_123_73, tz_123_74, tz_123_77, tz_123_78, tz_123_79, tz_123_82, tz_123_83, tz_123_84, tz_123_87, tk_138, tq_138_0, tq_138_1, tw_va_s, tw_va_n, tw_K_s, tw_K_n, and_true, true_and, and_false, false_and, true_or, or_true, not_true_eq_false, not_false_eq_true, ↓reduceIte, Nat.reduceEqDiff, show ¬ (0 : Int32) = 1 by decide, b1]
    by_cases h : B.1 = true
    · obtain ⟨b3, b4, b5⟩ := b2 h
      have e : tw_lk 0 1 (nI tk) B Z = ((false, false, 0, 0), tw_ma (if B.2.2.1 ≤ 0 then Z else tw_ma Z 3 (-9) (nI tk)) 2 (-9) (nI tk)) := by unfold tw_lk; rw [if_neg (by decide), if_pos ⟨rfl, rfl, h⟩]
      rw [e] at hQ
      simp only [h, tw_b1, b4, show ¬ (1 : Int32) = 0 by decide, ↓reduceIte]
      by_cases h0 : B.2.2.1 ≤ 0
      · rw [if_pos h0] at hQ
        simp only [h0, ↓reduceIte, tz_123_0, tz_123_1, tz_123_2, tz_123_5, tz_123_6, tz_123_9, tz_123_10, tz_123_13, tz_123_14, tz_123_15, tz_123_18, tz_123_19, tz_123_20, tz_123_23, tz_123_24, tz_123_25, tz_123_28, tz_123_29, tz_123_30, tz_123_33, tz_123_34, tz_123_35, tz_123_38, tz_123_41, tz_123_42, tz_123_45, tz_123_46, tz_123_47, tz_123_50, tz_123_51, tz_123_54, tz_123_57, tz_123_58, tz_123_61, tz_123_64, tz_123_65, tz_123_68, tz_123_69, tz_123_70, tz_123_73, tz_123_74, tz_123_77, tz_123_78, tz_123_79, tz_123_82, tz_123_83, tz_123_84, tz_123_87, tz_113_0, tz_113_1, tz_113_2, tz_113_4, tz_113_5, tz_113_8, tk_138, tq_138_0, tq_138_1, tk_133, tq_133_0, tq_133_1, tq_133_2, tw_va_s, tw_va_n, tw_K_s, tw_K_n, and_true, true_and, and_false, false_and, true_or, or_true, not_true_eq_false, not_false_eq_true, ↓reduceIte, Nat.reduceEqDiff]
        refine tw_p_add hZ _ _ _ (fun mi' w1 w2 => ?_)
        simp only [tz_123_0, tz_123_1, tz_123_2, tz_123_5, tz_123_6, tz_123_9, tz_123_10, tz_123_13, tz_123_14, tz_123_15, tz_123_18, tz_123_19, tz_123_20, tz_123_23, tz_123_24, tz_123_25, tz_123_28, tz_123_29, tz_123_30, tz_123_33, tz_123_34, tz_123_35, tz_123_38, tz_123_41, tz_123_42, tz_123_45, tz_123_46, tz_123_47, tz_123_50, tz_123_51, tz_123_54, tz_123_57, tz_123_58, tz_123_61, tz_123_64, tz_123_65, tz_123_68, tz_123_69, tz_123_70, tz_123_73, tz_123_74, tz_123_77, tz_123_78, tz_123_79, tz_123_82, tz_123_83, tz_123_84, tz_123_87, tz_113_0, tz_113_1, tz_113_2, tz_113_4, tz_113_5, tz_113_8, tk_138, tq_138_0, tq_138_1, tw_va_s, tw_va_n, tw_K_s, tw_K_n, and_true, true_and, and_false, false_and, true_or, or_true, not_true_eq_false, not_false_eq_true, ↓reduceIte, Nat.reduceEqDiff]
        refine hQ _ ⟨by simp [tw_st_ap, tw_b1], fun z => absurd (show false = true from z) (by decide)⟩ (tw_Cm_fr w1 (tw_st_n _ _ (by decide)) (tw_st_n _ _ (by decide)) (tw_st_n _ _ (by decide)) (tw_st_n _ _ (by decide))) (fun a a1 a2 a3 a4 a5 => by rw [tw_st_n _ _ a5, w2 a a1 a2 a3 a4])
      · rw [if_neg h0] at hQ
        simp only [h0, ↓reduceIte, tz_123_0, tz_123_1, tz_123_2, tz_123_5, tz_123_6, tz_123_9, tz_123_10, tz_123_13, tz_123_14, tz_123_15, tz_123_18, tz_123_19, tz_123_20, tz_123_23, tz_123_24, tz_123_25, tz_123_28, tz_123_29, tz_123_30, tz_123_33, tz_123_34, tz_123_35, tz_123_38, tz_123_41, tz_123_42, tz_123_45, tz_123_46, tz_123_47, tz_123_50, tz_123_51, tz_123_54, tz_123_57, tz_123_58, tz_123_61, tz_123_64, tz_123_65, tz_123_68, tz_123_69, tz_123_70, tz_123_73, tz_123_74, tz_123_77, tz_123_78, tz_123_79, tz_123_82, tz_123_83, tz_123_84, tz_123_87, tz_113_0, tz_113_1, tz_113_2, tz_113_4, tz_113_5, tz_113_8, tk_138, tq_138_0, tq_138_1, tk_133, tq_133_0, tq_133_1, tq_133_2, tw_va_s, tw_va_n, tw_K_s, tw_K_n, and_true, true_and, and_false, false_and, true_or, or_true, not_true_eq_false, not_false_eq_true, ↓reduceIte, Nat.reduceEqDiff]
        refine tw_p_add hZ _ _ _ (fun m1 v1 v2 => ?_)
        simp only [tz_123_0, tz_123_1, tz_123_2, tz_123_5, tz_123_6, tz_123_9, tz_123_10, tz_123_13, tz_123_14, tz_123_15, tz_123_18, tz_123_19, tz_123_20, tz_123_23, tz_123_24, tz_123_25, tz_123_28, tz_123_29, tz_123_30, tz_123_33, tz_123_34, tz_123_35, tz_123_38, tz_123_41, tz_123_42, tz_123_45, tz_123_46, tz_123_47, tz_123_50, tz_123_51, tz_123_54, tz_123_57, tz_123_58, tz_123_61, tz_123_64, tz_123_65, tz_123_68, tz_123_69, tz_123_70, tz_123_73, tz_123_74, tz_123_77, tz_123_78, tz_123_79, tz_123_82, tz_123_83, tz_123_84, tz_123_87, tz_113_0, tz_113_1, tz_113_2, tz_113_4, tz_113_5, tz_113_8, tk_138, tq_138_0, tq_138_1, tk_133, tq_133_0, tq_133_1, tq_133_2, tw_va_s, tw_va_n, tw_K_s, tw_K_n, and_true, true_and, and_false, false_and, true_or, or_true, not_true_eq_false, not_false_eq_true, ↓reduceIte, Nat.reduceEqDiff]
        refine tw_p_add v1 _ _ _ (fun mi' w1 w2 => ?_)
        simp only [tz_123_0, tz_123_1, tz_123_2, tz_123_5, tz_123_6, tz_123_9, tz_123_10, tz_123_13, tz_123_14, tz_123_15, tz_123_18, tz_123_19, tz_123_20, tz_123_23, tz_123_24, tz_123_25, tz_123_28, tz_123_29, tz_123_30, tz_123_33, tz_123_34, tz_123_35, tz_123_38, tz_123_41, tz_123_42, tz_123_45, tz_123_46, tz_123_47, tz_123_50, tz_123_51, tz_123_54, tz_123_57, tz_123_58, tz_123_61, tz_123_64, tz_123_65, tz_123_68, tz_123_69, tz_123_70, tz_123_73, tz_123_74, tz_123_77, tz_123_78, tz_123_79, tz_123_82, tz_123_83, tz_123_84, tz_123_87, tz_113_0, tz_113_1, tz_113_2, tz_113_4, tz_113_5, tz_113_8, tk_138, tq_138_0, tq_138_1, tw_va_s, tw_va_n, tw_K_s, tw_K_n, and_true, true_and, and_false, false_and, true_or, or_true, not_true_eq_false, not_false_eq_true, ↓reduceIte, Nat.reduceEqDiff]
        refine hQ _ ⟨by simp [tw_st_ap, tw_b1], fun z => absurd (show false = true from z) (by decide)⟩ (tw_Cm_fr w1 (tw_st_n _ _ (by decide)) (tw_st_n _ _ (by decide)) (tw_st_n _ _ (by decide)) (tw_st_n _ _ (by decide))) (fun a a1 a2 a3 a4 a5 => by rw [tw_st_n _ _ a5, w2 a a1 a2 a3 a4, v2 a a1 a2 a3 a4])
    · have e : tw_lk 0 1 (nI tk) B Z = (B, Z) := by unfold tw_lk; rw [if_neg (by decide), if_neg (fun z => h z.2.2)]
      simp only [h, tw_b1, Bool.false_eq_true, ↓reduceIte]
      exact same.resolve_right (fun z => z e)
  · have e : tw_lk 1 0 (nI tk) B Z = ((true, false, 0, 0), tw_ma Z 1 (-9) (nI tk)) := rfl
    rw [e] at hQ
    simp only [tz_123_0, tz_123_1, tz_123_2, tz_123_5, tz_123_6, tz_123_9, tz_123_10, tz_123_13, tz_123_14, tz_123_15, tz_123_18, tz_123_19, tz_123_20, tz_123_23, tz_123_24, tz_123_25, tz_123_28, tz_123_29, tz_123_30, tz_123_33, tz_123_34, tz_123_35, tz_123_38, tz_123_41, tz_123_42, tz_123_45, tz_123_46, tz_123_47, tz_123_50, tz_123_51, tz_123_54, tz_123_57, tz_123_58, tz_123_61, tz_123_64, tz_123_65, tz_123_68, tz_123_69, tz_123_70, tz_123_73, tz_123_74, tz_123_77, tz_123_78, tz_123_79, tz_123_82, tz_123_83, tz_123_84, tz_123_87, tz_113_0, tz_113_1, tz_113_2, tz_113_4, tz_113_5, tz_113_8, tk_138, tq_138_0, tq_138_1, tk_133, tq_133_0, tq_133_1, tq_133_2, tw_va_s, tw_va_n, tw_K_s, tw_K_n, and_true, true_and, and_false, false_and, true_or, or_true, not_true_eq_false, not_false_eq_true, ↓reduceIte, Nat.reduceEqDiff]
    refine tw_p_add hZ _ _ _ (fun mi' w1 w2 => ?_)
    simp only [tz_123_0, tz_123_1, tz_123_2, tz_123_5, tz_123_6, tz_123_9, tz_123_10, tz_123_13, tz_123_14, tz_123_15, tz_123_18, tz_123_19, tz_123_20, tz_123_23, tz_123_24, tz_123_25, tz_123_28, tz_123_29, tz_123_30, tz_123_33, tz_123_34, tz_123_35, tz_123_38, tz_123_41, tz_123_42, tz_123_45, tz_123_46, tz_123_47, tz_123_50, tz_123_51, tz_123_54, tz_123_57, tz_123_58, tz_123_61, tz_123_64, tz_123_65, tz_123_68, tz_123_69, tz_123_70, tz_123_73, tz_123_74, tz_123_77, tz_123_78, tz_123_79, tz_123_82, tz_123_83, tz_123_84, tz_123_87, tz_113_0, tz_113_1, tz_113_2, tz_113_4, tz_113_5, tz_113_8, tk_138, tq_138_0, tq_138_1, tw_va_s, tw_va_n, tw_K_s, tw_K_n, and_true, true_and, and_false, false_and, true_or, or_true, not_true_eq_false, not_false_eq_true, ↓reduceIte, Nat.reduceEqDiff, tw_st_s, tw_st_st]
    refine hQ _ ⟨by simp [tw_st_ap, tw_b1], fun z => by simp [tw_st_ap, tw_b1]⟩ (tw_Cm_fr w1 (tw_st_n _ _ (by decide)) (tw_st_n _ _ (by decide)) (tw_st_n _ _ (by decide)) (tw_st_n _ _ (by decide))) (fun a a1 a2 a3 a4 a5 => by rw [tw_st_n _ _ a5, w2 a a1 a2 a3 a4])
  · simp only [tz_123_0, tz_123_1, tz_123_2, tz_123_5, tz_123_6, tz_123_9, tz_123_10, tz_123_13, tz_123_14, tz_123_15, tz_123_18, tz_123_19, tz_123_20, tz_123_23, tz_123_24, tz_123_25, tz_123_28, tz_123_29, tz_123_30, tz_123_33, tz_123_34, tz_123_35, tz_123_38, tz_123_41, tz_123_42, tz_123_45, tz_123_46, tz_123_47, tz_123_50, tz_123_51, tz_123_54, tz_123_57, tz_123_58, tz_123_61, tz_123_64, tz_123_65, tz_123_68, tz_123_69, tz_123_70, tz_123_73, tz_123_74, tz_123_77, tz_123_78, tz_123_79, tz_123_82, tz_123_83, tz_123_84, tz_123_87, tk_138, tq_138_0, tq_138_1, tw_va_s, tw_va_n, tw_K_s, tw_K_n, and_true, true_and, and_false, false_and, true_or, or_true, not_true_eq_false, not_false_eq_true, ↓reduceIte, Nat.reduceEqDiff, show ¬ (1 : Int32) = 0 by decide]
    exact same.resolve_right (fun z => z rfl)
set_option maxRecDepth 100000 in
theorem tw_p_falls (hZ : tw_CK mi Z) (hB : tw_CB mi B) {x : Int32} {tk : Nat}
    (hQ : ∀ mi', tw_CB mi' (tw_cf x (nI tk) B Z).1 → tw_CK mi' (tw_cf x (nI tk) B Z).2 → (∀ a, a ≠ 133 → a ≠ 134 → a ≠ 135 → a ≠ 136 → a ≠ 138 → mi' a = mi a) → Q none tw_g0 mi' (tw_r0 t s i)) :
    tw_E sc (d + 3) 124 0 [some (.ref 138), some (.int (nI tk)), some (.int x)] [] tw_g0 mi (tw_r0 t s i) Q := by
  obtain ⟨b1, b2⟩ := hB
  by_cases h : B.1 = true
  · obtain ⟨b3, b4, b5⟩ := b2 h
    by_cases h2 : B.2.1 = true
    · have e : tw_cf x (nI tk) B Z = (if B.2.2.1 + 1 = 8 then ((true, true, 0, 0), tw_ma Z 0 (2 * B.2.2.2 + x) (nI tk)) else ((true, true, B.2.2.1 + 1, 2 * B.2.2.2 + x), Z)) := by unfold tw_cf; rw [if_pos ⟨h, h2⟩]
      rw [e] at hQ
      simp only [tz_124_0, tz_124_1, tz_124_4, tz_124_7, tz_124_8, tz_124_11, tz_124_14, tz_124_15, tz_124_16, tz_124_17, tz_124_18, tz_124_21, tz_124_22, tz_124_23, tz_124_24, tz_124_27, tz_124_28, tz_124_29, tz_124_32, tz_124_33, tz_124_34, tz_124_37, tz_124_38, tz_124_41, tz_124_43, tz_124_46, tz_124_47, tz_124_50, tz_124_51, tz_124_54, tz_124_55, tz_124_58, tz_124_59, tz_124_60, tz_124_63, tz_124_64, tz_124_65, tz_124_68, tk_138, tq_138_0, tq_138_1, tw_va_s, tw_va_n, tw_K_s, tw_K_n, and_true, true_and, and_false, false_and, true_or, or_true, not_true_eq_false, not_false_eq_true, ↓reduceIte, Nat.reduceEqDiff, b1, b3, b4, b5, h, h2, tw_b1, show ¬ (1 : Int32) = 0 by decide, tw_st_s, tw_st_st, tw_st_ap, Nat.reduceEqDiff]
      have fr : ∀ F : Nat → Int32, ∀ a, a ≠ 138 → tw_st mi 138 F a = mi a := fun F a ha => tw_st_n _ _ ha
      by_cases h8 : B.2.2.1 + 1 = 8
      · rw [if_pos h8] at hQ
        simp only [h8, not_true_eq_false, ↓reduceIte, tz_124_0, tz_124_1, tz_124_4, tz_124_7, tz_124_8, tz_124_11, tz_124_14, tz_124_15, tz_124_16, tz_124_17, tz_124_18, tz_124_21, tz_124_22, tz_124_23, tz_124_24, tz_124_27, tz_124_28, tz_124_29, tz_124_32, tz_124_33, tz_124_34, tz_124_37, tz_124_38, tz_124_41, tz_124_43, tz_124_46, tz_124_47, tz_124_50, tz_124_51, tz_124_54, tz_124_55, tz_124_58, tz_124_59, tz_124_60, tz_124_63, tz_124_64, tz_124_65, tz_124_68, tz_112_0, tz_112_1, tz_112_2, tz_112_3, tz_112_4, tz_112_7, tk_138, tq_138_0, tq_138_1, tk_133, tq_133_0, tq_133_1, tq_133_2, tw_va_s, tw_va_n, tw_K_s, tw_K_n, and_true, true_and, and_false, false_and, true_or, or_true, not_true_eq_false, not_false_eq_true, ↓reduceIte, Nat.reduceEqDiff]
        refine tw_p_add (Z := Z) (tw_Cm_fr hZ (fr _ _ (by decide)) (fr _ _ (by decide)) (fr _ _ (by decide)) (fr _ _ (by decide))) _ _ _ (fun mi' w1 w2 => ?_)
        have e138 := w2 138 (by decide) (by decide) (by decide) (by decide)
        simp only [tz_124_0, tz_124_1, tz_124_4, tz_124_7, tz_124_8, tz_124_11, tz_124_14, tz_124_15, tz_124_16, tz_124_17, tz_124_18, tz_124_21, tz_124_22, tz_124_23, tz_124_24, tz_124_27, tz_124_28, tz_124_29, tz_124_32, tz_124_33, tz_124_34, tz_124_37, tz_124_38, tz_124_41, tz_124_43, tz_124_46, tz_124_47, tz_124_50, tz_124_51, tz_124_54, tz_124_55, tz_124_58, tz_124_59, tz_124_60, tz_124_63, tz_124_64, tz_124_65, tz_124_68, tz_112_0, tz_112_1, tz_112_2, tz_112_3, tz_112_4, tz_112_7, tk_138, tq_138_0, tq_138_1, tw_va_s, tw_va_n, tw_K_s, tw_K_n, and_true, true_and, and_false, false_and, true_or, or_true, not_true_eq_false, not_false_eq_true, ↓reduceIte, Nat.reduceEqDiff, e138, tw_st_s, tw_st_st]
        refine hQ _ ⟨by simp [tw_st_ap, tw_b1, b1, h], fun z => by simp [tw_st_ap, tw_b1, b3, h2]⟩ (tw_Cm_fr w1 (tw_st_n _ _ (by decide)) (tw_st_n _ _ (by decide)) (tw_st_n _ _ (by decide)) (tw_st_n _ _ (by decide))) (fun a a1 a2 a3 a4 a5 => by rw [tw_st_n _ _ a5, w2 a a1 a2 a3 a4, fr _ a a5])
      · rw [if_neg h8] at hQ
        simp only [h8, not_false_eq_true, ↓reduceIte, tz_124_0, tz_124_1, tz_124_4, tz_124_7, tz_124_8, tz_124_11, tz_124_14, tz_124_15, tz_124_16, tz_124_17, tz_124_18, tz_124_21, tz_124_22, tz_124_23, tz_124_24, tz_124_27, tz_124_28, tz_124_29, tz_124_32, tz_124_33, tz_124_34, tz_124_37, tz_124_38, tz_124_41, tz_124_43, tz_124_46, tz_124_47, tz_124_50, tz_124_51, tz_124_54, tz_124_55, tz_124_58, tz_124_59, tz_124_60, tz_124_63, tz_124_64, tz_124_65, tz_124_68, tk_138, tq_138_0, tq_138_1, tw_va_s, tw_va_n, tw_K_s, tw_K_n, and_true, true_and, and_false, false_and, true_or, or_true, not_true_eq_false, not_false_eq_true, ↓reduceIte, Nat.reduceEqDiff]
        refine hQ _ ⟨by simp [tw_st_ap, tw_b1, b1, h], fun z => by simp [tw_st_ap, tw_b1, b3, h2]⟩ (tw_Cm_fr hZ (fr _ _ (by decide)) (fr _ _ (by decide)) (fr _ _ (by decide)) (fr _ _ (by decide))) (fun a a1 a2 a3 a4 a5 => fr _ a a5)
    · have e : tw_cf x (nI tk) B Z = (B, Z) := by unfold tw_cf; rw [if_neg (fun z => h2 z.2)]
      rw [e] at hQ
      simp only [tz_124_0, tz_124_1, tz_124_4, tz_124_7, tz_124_8, tz_124_11, tz_124_14, tz_124_15, tz_124_16, tz_124_17, tz_124_18, tz_124_21, tz_124_22, tz_124_23, tz_124_24, tz_124_27, tz_124_28, tz_124_29, tz_124_32, tz_124_33, tz_124_34, tz_124_37, tz_124_38, tz_124_41, tz_124_43, tz_124_46, tz_124_47, tz_124_50, tz_124_51, tz_124_54, tz_124_55, tz_124_58, tz_124_59, tz_124_60, tz_124_63, tz_124_64, tz_124_65, tz_124_68, tk_138, tq_138_0, tq_138_1, tw_va_s, tw_va_n, tw_K_s, tw_K_n, and_true, true_and, and_false, false_and, true_or, or_true, not_true_eq_false, not_false_eq_true, ↓reduceIte, Nat.reduceEqDiff, b1, b3, h, h2, tw_b1, Bool.false_eq_true, show ¬ (1 : Int32) = 0 by decide]
      exact hQ mi ⟨b1, b2⟩ hZ (fun _ _ _ _ _ _ => rfl)
  · have e : tw_cf x (nI tk) B Z = (B, Z) := by unfold tw_cf; rw [if_neg (fun z => h z.1)]
    rw [e] at hQ
    simp only [tz_124_0, tz_124_1, tz_124_4, tz_124_7, tz_124_8, tz_124_11, tz_124_14, tz_124_15, tz_124_16, tz_124_17, tz_124_18, tz_124_21, tz_124_22, tz_124_23, tz_124_24, tz_124_27, tz_124_28, tz_124_29, tz_124_32, tz_124_33, tz_124_34, tz_124_37, tz_124_38, tz_124_41, tz_124_43, tz_124_46, tz_124_47, tz_124_50, tz_124_51, tz_124_54, tz_124_55, tz_124_58, tz_124_59, tz_124_60, tz_124_63, tz_124_64, tz_124_65, tz_124_68, tk_138, tq_138_0, tq_138_1, tw_va_s, tw_va_n, tw_K_s, tw_K_n, and_true, true_and, and_false, false_and, true_or, or_true, not_true_eq_false, not_false_eq_true, ↓reduceIte, Nat.reduceEqDiff, b1, h, tw_b1, Bool.false_eq_true]
    exact hQ mi ⟨b1, b2⟩ hZ (fun _ _ _ _ _ _ => rfl)
set_option maxRecDepth 100000 in
theorem tw_p_byl {c e : Int32} : ∀ n t' (B : tw_B) (Z : tw_Km) (mi : tw_I) (x4 x5 x6 : Option Value), T - t' = n → 1 ≤ t' → t' ≤ 4000 → tw_Ch mi T sm hd → tw_CK mi Z → tw_CB mi B →
    (∀ mi', tw_CK mi' (tw_byl sm c e n t' B Z) → (∀ a, a ≠ 133 → a ≠ 134 → a ≠ 135 → a ≠ 136 → a ≠ 138 → mi' a = mi a) → Q none tw_g0 mi' (tw_r0 t s i)) →
    tw_E sc (d + 4) 122 14 [some (.ref 138), some (.int c), some (.int e), some (.int (nI t')), x4, x5, x6] [] tw_g0 mi (tw_r0 t s i) Q := by
  intro n
  induction n with
  | zero =>
    intro t' B Z mi x4 x5 x6 hn h1 h4 hC hZ hB hQ
    have hT := hC.1
    rw [tz_122_14]
    simp only [tz_122_0, tz_122_1, tz_122_4, tz_122_7, tz_122_8, tz_122_9, tz_122_12, tz_122_13, tz_122_15, tz_122_16, tz_122_19, tz_122_22, tz_122_25, tz_122_26, tz_122_29, tz_122_32, tz_122_35, tz_122_36, tz_122_39, tz_122_40, tz_122_41, tz_122_42, tz_122_43, tz_122_46, tz_122_48, tz_122_49, tz_122_52, tz_122_53, tz_122_54, tz_122_57, tz_122_59, tz_122_60, tz_122_63, tz_122_64, tz_122_65, tz_122_66, tz_122_67, tz_122_70, tz_122_72, tz_122_74, tz_122_75, tz_122_78, tz_122_80, tz_122_81, tz_122_84, tz_122_85, tz_122_86, tz_122_88, tz_122_89, tz_122_92, tz_122_93, tz_122_94, tz_122_97, tz_122_100, tz_122_103, tz_122_105, tz_122_106, tz_122_109, tz_122_110, tz_122_111, tz_122_113, tz_122_116, tz_122_119, tz_122_121, tz_122_122, tz_122_125, tz_122_126, tz_122_127, tz_122_130, tz_122_133, tz_122_136, tz_90_0, tz_90_1, tz_90_4, tk_138, tq_138_0, tq_138_1, tk_128, tq_128_0, tq_128_1, tw_va_s, tw_va_n, tw_K_s, tw_K_n, and_true, true_and, and_false, false_and, true_or, or_true, not_true_eq_false, not_false_eq_true, ↓reduceIte, Nat.reduceEqDiff, hC.2.1]
    rw [tw_le_t (by omega) (by omega)]
    exact hQ mi hZ (fun _ _ _ _ _ _ => rfl)
  | succ n ih =>
    intro t' B Z mi x4 x5 x6 hn h1 h4 hC hZ hB hQ
    have hT := hC.1
    have hz4 := hZ.1
    rw [tw_byl] at hQ
    rw [tz_122_14]
    simp only [tz_122_0, tz_122_1, tz_122_4, tz_122_7, tz_122_8, tz_122_9, tz_122_12, tz_122_13, tz_122_15, tz_122_16, tz_122_19, tz_122_22, tz_122_25, tz_122_26, tz_122_29, tz_122_32, tz_122_35, tz_122_36, tz_122_39, tz_122_40, tz_122_41, tz_122_42, tz_122_43, tz_122_46, tz_122_48, tz_122_49, tz_122_52, tz_122_53, tz_122_54, tz_122_57, tz_122_59, tz_122_60, tz_122_63, tz_122_64, tz_122_65, tz_122_66, tz_122_67, tz_122_70, tz_122_72, tz_122_74, tz_122_75, tz_122_78, tz_122_80, tz_122_81, tz_122_84, tz_122_85, tz_122_86, tz_122_88, tz_122_89, tz_122_92, tz_122_93, tz_122_94, tz_122_97, tz_122_100, tz_122_103, tz_122_105, tz_122_106, tz_122_109, tz_122_110, tz_122_111, tz_122_113, tz_122_116, tz_122_119, tz_122_121, tz_122_122, tz_122_125, tz_122_126, tz_122_127, tz_122_130, tz_122_133, tz_122_136, tz_90_0, tz_90_1, tz_90_4, tz_111_0, tz_111_1, tz_111_4, tz_111_7, tz_111_10, tz_111_11, tz_111_14, tz_111_15, tk_138, tq_138_0, tq_138_1, tk_128, tq_128_0, tq_128_1, tk_133, tq_133_0, tq_133_1, tq_133_2, tw_va_s, tw_va_n, tw_K_s, tw_K_n, and_true, true_and, and_false, false_and, true_or, or_true, not_true_eq_false, not_false_eq_true, ↓reduceIte, Nat.reduceEqDiff, hC.2.1, hZ.2.1]
    rw [tw_le_f (by omega) (by omega)]
    by_cases h5 : Z.1 < 400
    · have c2 : nI Z.1 < 400 := nI_lt (b := 400) h5 (by omega)
      have e1 : nI t' - 1 = nI (t' - 1) := pk_sub (b := 1) h1
      have hw0 : ∀ (w : Int32) (d : Nat) (Q : Option Value → tw_G → tw_I → tw_Q → Prop), tw_E sc (d + 1) 96 0 [some (.ref 128), some (.int (nI t')), some (.int w)] [] tw_g0 mi (tw_r0 t s i) Q = Q (some (.int (tw_bt (sm t') w))) tw_g0 mi (tw_r0 t s i) := fun w d Q => by rw [tw_p_wire hC (by omega), if_pos (by omega)]
      have hw1 : ∀ (w : Int32) (d : Nat) (Q : Option Value → tw_G → tw_I → tw_Q → Prop), tw_E sc (d + 1) 96 0 [some (.ref 128), some (.int (nI (t' - 1))), some (.int w)] [] tw_g0 mi (tw_r0 t s i) Q = Q (some (.int (tw_bt (sm (t' - 1)) w))) tw_g0 mi (tw_r0 t s i) := fun w d Q => by rw [tw_p_wire hC (by omega), if_pos (by omega)]
      rw [if_pos h5] at hQ
      simp only [c2, ↓reduceIte, show ¬ (1 : Int32) = 0 by decide, e1, hw0, hw1, tz_122_0, tz_122_1, tz_122_4, tz_122_7, tz_122_8, tz_122_9, tz_122_12, tz_122_13, tz_122_15, tz_122_16, tz_122_19, tz_122_22, tz_122_25, tz_122_26, tz_122_29, tz_122_32, tz_122_35, tz_122_36, tz_122_39, tz_122_40, tz_122_41, tz_122_42, tz_122_43, tz_122_46, tz_122_48, tz_122_49, tz_122_52, tz_122_53, tz_122_54, tz_122_57, tz_122_59, tz_122_60, tz_122_63, tz_122_64, tz_122_65, tz_122_66, tz_122_67, tz_122_70, tz_122_72, tz_122_74, tz_122_75, tz_122_78, tz_122_80, tz_122_81, tz_122_84, tz_122_85, tz_122_86, tz_122_88, tz_122_89, tz_122_92, tz_122_93, tz_122_94, tz_122_97, tz_122_100, tz_122_103, tz_122_105, tz_122_106, tz_122_109, tz_122_110, tz_122_111, tz_122_113, tz_122_116, tz_122_119, tz_122_121, tz_122_122, tz_122_125, tz_122_126, tz_122_127, tz_122_130, tz_122_133, tz_122_136, tk_138, tq_138_0, tq_138_1, tk_128, tq_128_0, tq_128_1, tw_va_s, tw_va_n, tw_K_s, tw_K_n, and_true, true_and, and_false, false_and, true_or, or_true, not_true_eq_false, not_false_eq_true, ↓reduceIte, Nat.reduceEqDiff]
      have nx : ∀ (B' : tw_B) (Z' : tw_Km) (mi' : tw_I) (y4 y5 y6 : Option Value), tw_bs (tw_bt (sm (t' - 1)) c) (tw_bt (sm t') c) (tw_bt (sm (t' - 1)) e) (tw_bt (sm t') e) (nI t') B Z = (B', Z') → tw_CB mi' B' → tw_CK mi' Z' → (∀ a, a ≠ 133 → a ≠ 134 → a ≠ 135 → a ≠ 136 → a ≠ 138 → mi' a = mi a) → tw_E sc (d + 4) 122 14 [some (.ref 138), some (.int c), some (.int e), some (.int (nI (t' + 1))), y4, y5, y6] [] tw_g0 mi' (tw_r0 t s i) Q := by
        intro B' Z' mi' y4 y5 y6 eb hB' hZ' fr
        rw [eb] at hQ
        refine ih (t' + 1) B' Z' mi' y4 y5 y6 (by omega) (by omega) (by omega) ?_ hZ' hB' (fun mi2 r1 r2 => hQ mi2 r1 (fun a a1 a2 a3 a4 a5 => by rw [r2 a a1 a2 a3 a4 a5, fr a a1 a2 a3 a4 a5]))
        unfold tw_Ch at hC ⊢
        rw [fr 128 (by decide) (by decide) (by decide) (by decide) (by decide), fr 129 (by decide) (by decide) (by decide) (by decide) (by decide), fr 130 (by decide) (by decide) (by decide) (by decide) (by decide)]
        exact hC
      have hx := tw_bt01 (sm (t' - 1)) e
      have hy := tw_bt01 (sm t') e
      rcases tw_bt01 (sm (t' - 1)) c with q1 | q1 <;> rcases tw_bt01 (sm t') c with q2 | q2 <;> simp only [q1, q2] at nx ⊢ <;> simp only [show ¬ (0 : Int32) = 1 by decide, not_true_eq_false, not_false_eq_true, ↓reduceIte]
      · simp only [nI_1]
        exact nx B Z mi _ _ _ rfl hB hZ (fun _ _ _ _ _ _ => rfl)
      · simp only [nI_1]
        refine nx (B.1, true, B.2.2) Z _ _ _ _ rfl ⟨?_, fun z => ?_⟩ (tw_Cm_fr hZ (tw_st_n _ _ (by decide)) (tw_st_n _ _ (by decide)) (tw_st_n _ _ (by decide)) (tw_st_n _ _ (by decide))) (fun a a1 a2 a3 a4 a5 => tw_st_n _ _ a5)
        · rw [tw_st_s, tw_st_n _ _ (by decide)]; exact hB.1
        · obtain ⟨_, z4, z5⟩ := hB.2 z
          exact ⟨by rw [tw_st_s, tw_st_s]; rfl, by rw [tw_st_s, tw_st_n _ _ (by decide)]; exact z4, by rw [tw_st_s, tw_st_n _ _ (by decide)]; exact z5⟩
      · refine tw_p_falls hZ hB (fun mi' w1 w2 w3 => ?_)
        simp only [tz_122_0, tz_122_1, tz_122_4, tz_122_7, tz_122_8, tz_122_9, tz_122_12, tz_122_13, tz_122_15, tz_122_16, tz_122_19, tz_122_22, tz_122_25, tz_122_26, tz_122_29, tz_122_32, tz_122_35, tz_122_36, tz_122_39, tz_122_40, tz_122_41, tz_122_42, tz_122_43, tz_122_46, tz_122_48, tz_122_49, tz_122_52, tz_122_53, tz_122_54, tz_122_57, tz_122_59, tz_122_60, tz_122_63, tz_122_64, tz_122_65, tz_122_66, tz_122_67, tz_122_70, tz_122_72, tz_122_74, tz_122_75, tz_122_78, tz_122_80, tz_122_81, tz_122_84, tz_122_85, tz_122_86, tz_122_88, tz_122_89, tz_122_92, tz_122_93, tz_122_94, tz_122_97, tz_122_100, tz_122_103, tz_122_105, tz_122_106, tz_122_109, tz_122_110, tz_122_111, tz_122_113, tz_122_116, tz_122_119, tz_122_121, tz_122_122, tz_122_125, tz_122_126, tz_122_127, tz_122_130, tz_122_133, tz_122_136, tw_va_s, tw_va_n, tw_K_s, tw_K_n, and_true, true_and, and_false, false_and, true_or, or_true, not_true_eq_false, not_false_eq_true, ↓reduceIte, Nat.reduceEqDiff, nI_1]
        exact nx _ _ mi' _ _ _ rfl w1 w2 w3
      · refine tw_p_look hZ hB hx hy (fun mi' w1 w2 w3 => ?_)
        simp only [tz_122_0, tz_122_1, tz_122_4, tz_122_7, tz_122_8, tz_122_9, tz_122_12, tz_122_13, tz_122_15, tz_122_16, tz_122_19, tz_122_22, tz_122_25, tz_122_26, tz_122_29, tz_122_32, tz_122_35, tz_122_36, tz_122_39, tz_122_40, tz_122_41, tz_122_42, tz_122_43, tz_122_46, tz_122_48, tz_122_49, tz_122_52, tz_122_53, tz_122_54, tz_122_57, tz_122_59, tz_122_60, tz_122_63, tz_122_64, tz_122_65, tz_122_66, tz_122_67, tz_122_70, tz_122_72, tz_122_74, tz_122_75, tz_122_78, tz_122_80, tz_122_81, tz_122_84, tz_122_85, tz_122_86, tz_122_88, tz_122_89, tz_122_92, tz_122_93, tz_122_94, tz_122_97, tz_122_100, tz_122_103, tz_122_105, tz_122_106, tz_122_109, tz_122_110, tz_122_111, tz_122_113, tz_122_116, tz_122_119, tz_122_121, tz_122_122, tz_122_125, tz_122_126, tz_122_127, tz_122_130, tz_122_133, tz_122_136, tw_va_s, tw_va_n, tw_K_s, tw_K_n, and_true, true_and, and_false, false_and, true_or, or_true, not_true_eq_false, not_false_eq_true, ↓reduceIte, Nat.reduceEqDiff, nI_1]
        exact nx _ _ mi' _ _ _ rfl w1 w2 w3
    · have c2 : ¬ nI Z.1 < 400 := nI_nlt (b := 400) (by omega) (by omega)
      rw [if_neg h5] at hQ
      simp only [c2, ↓reduceIte, show ¬ (1 : Int32) = 0 by decide, not_false_eq_true]
      exact hQ mi hZ (fun _ _ _ _ _ _ => rfl)
set_option maxRecDepth 100000 in
theorem tw_p_bytes (hC : tw_Ch mi T sm hd) (hZ : tw_CK mi Z) {S : tw_Hs} (hS : S.1 = T ∧ S.2.1 = sm) (c e : Int32)
    (hQ : ∀ mi', tw_CK mi' (tw_byq S Z c e).1 → (∀ a, a ≠ 133 → a ≠ 134 → a ≠ 135 → a ≠ 136 → a ≠ 138 → mi' a = mi a) → Q (some (.int (tw_byq S Z c e).2)) tw_g0 mi' (tw_r0 t s i)) :
    tw_E sc (d + 5) 19 0 [some (.ref 0), some (.int c), some (.int e)] [] tw_g0 mi (tw_r0 t s i) Q := by
  have hT := hC.1
  obtain ⟨hS1, hS2⟩ := hS
  have hq0 : ∀ r, tw_byq S Z c e = (Z, r) → Q (some (.int r)) tw_g0 mi (tw_r0 t s i) := by
    intro r e
    rw [e] at hQ
    exact hQ _ hZ (fun _ _ _ _ _ _ => rfl)
  by_cases h1 : (0 ≤ c ∧ c ≤ 15) ∧ (0 ≤ e ∧ e ≤ 15)
  · have n1 : ¬ c < 0 := Int32.not_lt.mpr h1.1.1
    have n2 : ¬ (16 : Int32) ≤ c := fun q => (tw_w15 _).mp q h1.1.2
    have n3 : ¬ e < 0 := Int32.not_lt.mpr h1.2.1
    have n4 : ¬ (16 : Int32) ≤ e := fun q => (tw_w15 _).mp q h1.2.2
    simp only [tz_19_0, tz_19_1, tz_19_4, tz_19_7, tz_19_8, tz_19_11, tz_19_14, tz_19_15, tz_19_16, tz_19_17, tz_19_18, tz_19_21, tz_19_23, tz_19_24, tz_19_25, tz_19_28, tz_19_29, tz_19_30, tz_19_33, tz_19_34, tz_19_37, tz_19_40, tz_32_0, tz_32_1, tz_32_4, tz_32_5, tz_32_7, tz_32_10, tz_32_11, tz_32_14, tz_32_15, tk_0, tq_0_0, tq_0_1, tq_0_2, tq_0_3, tq_0_4, tq_0_5, tq_0_6, tq_t, tq_s, tw_va_s, tw_va_n, tw_K_s, tw_K_n, and_true, true_and, and_false, false_and, true_or, or_true, not_true_eq_false, not_false_eq_true, ↓reduceIte, Nat.reduceEqDiff, n1, n2, n3, n4, show ¬ (1 : Int32) = 0 by decide]
    by_cases h2 : c = e
    · simp only [h2, ↓reduceIte, not_true_eq_false]
      exact hq0 (-2) (by unfold tw_byq; rw [if_pos h1, if_pos h2])
    · have e1 : tw_byq S Z c e = (tw_byl S.2.1 c e (S.1 - 1) 1 (false, false, 0, 0) (0, Z.2), nI (tw_byl S.2.1 c e (S.1 - 1) 1 (false, false, 0, 0) (0, Z.2)).1) := by unfold tw_byq; rw [if_pos h1, if_neg h2]
      rw [e1, hS1, hS2] at hQ
      simp only [h2, ↓reduceIte, not_false_eq_true, tz_19_0, tz_19_1, tz_19_4, tz_19_7, tz_19_8, tz_19_11, tz_19_14, tz_19_15, tz_19_16, tz_19_17, tz_19_18, tz_19_21, tz_19_23, tz_19_24, tz_19_25, tz_19_28, tz_19_29, tz_19_30, tz_19_33, tz_19_34, tz_19_37, tz_19_40, tz_122_0, tz_122_1, tz_122_4, tz_122_7, tz_122_8, tz_122_9, tz_122_12, tz_122_13, tz_122_15, tz_122_16, tz_122_19, tz_122_22, tz_122_25, tz_122_26, tz_122_29, tz_122_32, tz_122_35, tz_122_36, tz_122_39, tz_122_40, tz_122_41, tz_122_42, tz_122_43, tz_122_46, tz_122_48, tz_122_49, tz_122_52, tz_122_53, tz_122_54, tz_122_57, tz_122_59, tz_122_60, tz_122_63, tz_122_64, tz_122_65, tz_122_66, tz_122_67, tz_122_70, tz_122_72, tz_122_74, tz_122_75, tz_122_78, tz_122_80, tz_122_81, tz_122_84, tz_122_85, tz_122_86, tz_122_88, tz_122_89, tz_122_92, tz_122_93, tz_122_94, tz_122_97, tz_122_100, tz_122_103, tz_122_105, tz_122_106, tz_122_109, tz_122_110, tz_122_111, tz_122_113, tz_122_116, tz_122_119, tz_122_121, tz_122_122, tz_122_125, tz_122_126, tz_122_127, tz_122_130, tz_122_133, tz_122_136, tz_109_0, tz_109_1, tz_109_2, tz_109_5, tk_0, tq_0_0, tq_0_1, tq_0_2, tq_0_3, tq_0_4, tq_0_5, tq_0_6, tq_t, tq_s, tk_138, tq_138_0, tq_138_1, tk_133, tq_133_0, tq_133_1, tq_133_2, tw_va_s, tw_va_n, tw_K_s, tw_K_n, and_true, true_and, and_false, false_and, true_or, or_true, not_true_eq_false, not_false_eq_true, ↓reduceIte, Nat.reduceEqDiff]
      refine tw_p_byl (T := T) (sm := sm) (hd := hd) (T - 1) 1 (false, false, 0, 0) (0, Z.2) _ none none none rfl (by omega) (by omega) ?_ ⟨by show 0 ≤ 400; omega, by simp [tw_st_ap]; rfl, fun j hj => absurd hj (Nat.not_lt_zero j)⟩ ⟨by simp [tw_st_ap, tw_b1], fun z => absurd (show false = true from z) (by decide)⟩ (fun mi' w1 w2 => ?_)
      · unfold tw_Ch at hC ⊢
        rw [tw_st_n _ _ (by decide), tw_st_n _ _ (by decide), tw_st_n _ _ (by decide), tw_st_n _ _ (by decide), tw_st_n _ _ (by decide), tw_st_n _ _ (by decide)]
        exact hC
      · simp only [tz_19_0, tz_19_1, tz_19_4, tz_19_7, tz_19_8, tz_19_11, tz_19_14, tz_19_15, tz_19_16, tz_19_17, tz_19_18, tz_19_21, tz_19_23, tz_19_24, tz_19_25, tz_19_28, tz_19_29, tz_19_30, tz_19_33, tz_19_34, tz_19_37, tz_19_40, tz_110_0, tz_110_1, tz_110_4, tk_0, tq_0_0, tq_0_1, tq_0_2, tq_0_3, tq_0_4, tq_0_5, tq_0_6, tq_t, tq_s, tk_133, tq_133_0, tq_133_1, tq_133_2, tw_va_s, tw_va_n, tw_K_s, tw_K_n, and_true, true_and, and_false, false_and, true_or, or_true, not_true_eq_false, not_false_eq_true, ↓reduceIte, Nat.reduceEqDiff, w1.2.1]
        exact hQ mi' w1 (fun a a1 a2 a3 a4 a5 => by rw [w2 a a1 a2 a3 a4 a5, tw_st_n _ _ a5, tw_st_n _ _ a1])
  · have hq := hq0 (-1) (by unfold tw_byq; rw [if_neg h1])
    simp only [tz_19_0, tz_19_1, tz_19_4, tz_19_7, tz_19_8, tz_19_11, tz_19_14, tz_19_15, tz_19_16, tz_19_17, tz_19_18, tz_19_21, tz_19_23, tz_19_24, tz_19_25, tz_19_28, tz_19_29, tz_19_30, tz_19_33, tz_19_34, tz_19_37, tz_19_40, tz_32_0, tz_32_1, tz_32_4, tz_32_5, tz_32_7, tz_32_10, tz_32_11, tz_32_14, tz_32_15, tk_0, tq_0_0, tq_0_1, tq_0_2, tq_0_3, tq_0_4, tq_0_5, tq_0_6, tq_t, tq_s, tw_va_s, tw_va_n, tw_K_s, tw_K_n, and_true, true_and, and_false, false_and, true_or, or_true, not_true_eq_false, not_false_eq_true, ↓reduceIte, Nat.reduceEqDiff]
    by_cases q1 : c < 0
    · simp only [q1, ↓reduceIte]; exact hq
    by_cases q2 : (16 : Int32) ≤ c
    · simp only [q1, q2, ↓reduceIte]; exact hq
    by_cases q3 : e < 0
    · simp only [q1, q2, q3, ↓reduceIte, show ¬ (1 : Int32) = 0 by decide, not_true_eq_false]; exact hq
    by_cases q4 : (16 : Int32) ≤ e
    · simp only [q1, q2, q3, q4, ↓reduceIte, show ¬ (1 : Int32) = 0 by decide, not_true_eq_false]; exact hq
    exact absurd ⟨⟨Int32.not_lt.mp q1, Decidable.not_not.mp (fun z => q2 ((tw_w15 _).mpr z))⟩, Int32.not_lt.mp q3, Decidable.not_not.mp (fun z => q4 ((tw_w15 _).mpr z))⟩ h1
end tw_bytes
