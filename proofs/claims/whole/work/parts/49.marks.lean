/-! marks are set; frames -/
abbrev tw_Km : Type := Nat × (Nat → Int32) × (Nat → Int32) × (Nat → Int32)
def tw_CK (mi : tw_I) (Z : tw_Km) : Prop := tw_Cm mi Z.1 Z.2.1 Z.2.2.1 Z.2.2.2
def tw_MK (mi : tw_I) (Z : tw_Km) : Prop := tw_Mm mi Z.1 Z.2.1 Z.2.2.1 Z.2.2.2
/-- a mark more, if there is room -/
def tw_ma (Z : tw_Km) (k v t : Int32) : tw_Km := if Z.1 < 400 then (Z.1 + 1, tw_st Z.2.1 Z.1 k, tw_st Z.2.2.1 Z.1 v, tw_st Z.2.2.2 Z.1 t) else Z
def tw_K0 : tw_Km := (0, fun _ => 0, fun _ => 0, fun _ => 0)
/-- the byte of a frame: its first j bits -/
def tw_val (bt : Nat → Int32) (k m : Nat) : Nat → Int32
  | 0 => 0
  | j + 1 => tw_val bt k m j ||| bt (m + k * (j + 1)) <<< (nI j &&& 31)
/-- a frame from a beginning s: the tick that was looked at last -/
def tw_frm (bt : Nat → Int32) (T k s : Nat) (Z : tw_Km) : Option Nat × tw_Km :=
  if s + k / 2 < T ∧ bt (s + k / 2) = 1 then (some (s + k / 2), tw_ma Z 3 (-9) (nI (s + k / 2)))
  else if s + k / 2 + 9 * k < T then (some (s + k / 2 + 9 * k), if bt (s + k / 2 + 9 * k) = 1 then tw_ma Z 0 (tw_val bt k (s + k / 2) 8) (nI s) else tw_ma Z 3 (-9) (nI (s + k / 2 + 9 * k)))
  else (none, Z)
def tw_oi : Option Nat → Int32
  | none => -9
  | some n => nI n
abbrev tw_beg (bt : Nat → Int32) (s : Nat) : Prop := bt s = 0 ∧ (s = 0 ∨ bt (s - 1) = 1)
section tw_marks
variable {sc : Nat × (Nat → Int32)} {d t s i N k T : Nat} {mi : tw_I} {Q : Option Value → tw_G → tw_I → tw_Q → Prop} {Z : tw_Km} {sm hd : Nat → Int32}
set_option maxRecDepth 100000 in
theorem tw_p_add (hC : tw_CK mi Z) (x y z : Int32) (hQ : ∀ mi', tw_CK mi' (tw_ma Z x y z) → (∀ a, a ≠ 133 → a ≠ 134 → a ≠ 135 → a ≠ 136 → mi' a = mi a) → Q none tw_g0 mi' (tw_r0 t s i)) :
    tw_E sc (d + 1) 115 0 [some (.ref 133), some (.int x), some (.int y), some (.int z)] [] tw_g0 mi (tw_r0 t s i) Q := by
  obtain ⟨h4, h1, hm⟩ := hC
  unfold tw_ma at hQ
  by_cases h : Z.1 < 400
  · rw [if_pos h] at hQ
    have c1 : nI Z.1 < 400 := nI_lt (b := 400) h (by omega)
    simp only [tz_115_0, tz_115_1, tz_115_4, tz_115_7, tz_115_8, tz_115_11, tz_115_12, tz_115_15, tz_115_16, tz_115_17, tz_115_18, tz_115_21, tz_115_22, tz_115_25, tz_115_26, tz_115_27, tz_115_28, tz_115_31, tz_115_32, tz_115_35, tz_115_36, tz_115_37, tz_115_38, tz_115_39, tz_115_42, tz_115_43, tz_115_44, tz_115_47, tz_111_0, tz_111_1, tz_111_4, tz_111_7, tz_111_10, tz_111_11, tz_111_14, tz_111_15, tk_133, tq_133_0, tq_133_1, tq_133_2, tk_134, tj_134, tk_135, tj_135, tk_136, tj_136, tw_va_s, tw_va_n, tw_K_s, tw_K_n, and_true, true_and, and_false, false_and, true_or, or_true, not_true_eq_false, not_false_eq_true, ↓reduceIte, Nat.reduceEqDiff, h1, c1, nI_clamp (show Z.1 < 2 ^ 31 by omega), vp_in_nI h (by omega), tw_st_ap, Nat.reduceEqDiff, nI_1]
    refine hQ _ ⟨by show Z.1 + 1 ≤ 400; omega, by simp [tw_st_ap], fun j hj => ?_⟩ (fun a a1 a2 a3 a4 => by simp only [tw_st_ap, if_neg a1, if_neg a2, if_neg a3, if_neg a4])
    simp only [tw_st_ap, Nat.reduceEqDiff, ↓reduceIte]
    by_cases hj2 : j = Z.1
    · simp [hj2]
    · have hj3 : j < Z.1 + 1 := hj
      simp only [if_neg hj2]
      exact hm j (by omega)
  · rw [if_neg h] at hQ
    have c1 : ¬ nI Z.1 < 400 := nI_nlt (b := 400) (by omega) (by omega)
    simp only [tz_115_0, tz_115_1, tz_115_4, tz_115_7, tz_115_8, tz_115_11, tz_115_12, tz_115_15, tz_115_16, tz_115_17, tz_115_18, tz_115_21, tz_115_22, tz_115_25, tz_115_26, tz_115_27, tz_115_28, tz_115_31, tz_115_32, tz_115_35, tz_115_36, tz_115_37, tz_115_38, tz_115_39, tz_115_42, tz_115_43, tz_115_44, tz_115_47, tz_111_0, tz_111_1, tz_111_4, tz_111_7, tz_111_10, tz_111_11, tz_111_14, tz_111_15, tk_133, tq_133_0, tq_133_1, tq_133_2, tw_va_s, tw_va_n, tw_K_s, tw_K_n, and_true, true_and, and_false, false_and, true_or, or_true, not_true_eq_false, not_false_eq_true, ↓reduceIte, Nat.reduceEqDiff, h1, c1, show ¬ (1 : Int32) = 0 by decide]
    exact hQ mi ⟨h4, h1, hm⟩ (fun _ _ _ _ _ => rfl)
set_option maxRecDepth 100000 in
theorem tw_q_add (hC : tw_MK mi Z) (x y z : Int32) (hQ : ∀ mi', tw_MK mi' (tw_ma Z x y z) → (∀ a, a ≠ 139 → a ≠ 157 → a ≠ 158 → a ≠ 159 → mi' a = mi a) → (∀ c, c ≠ 25 → mi' 139 c = mi 139 c) → Q none tw_g0 mi' (tw_r0 t s i)) :
    tw_E sc d 164 0 [some (.ref 139), some (.int x), some (.int y), some (.int z)] [] tw_g0 mi (tw_r0 t s i) Q := by
  obtain ⟨h4, h1, hm⟩ := hC
  unfold tw_ma at hQ
  by_cases h : Z.1 < 400
  · rw [if_pos h] at hQ
    have c1 : ¬ (400 : Int32) ≤ nI Z.1 := nI_ge (b := 400) h (by omega)
    simp only [tz_164_0, tz_164_1, tz_164_4, tz_164_7, tz_164_10, tz_164_11, tz_164_14, tz_164_15, tz_164_18, tz_164_19, tz_164_20, tz_164_21, tz_164_24, tz_164_25, tz_164_28, tz_164_29, tz_164_30, tz_164_31, tz_164_34, tz_164_35, tz_164_38, tz_164_39, tz_164_40, tz_164_41, tz_164_42, tz_164_45, tz_164_46, tz_164_47, tz_164_50, tk_139, tq_139_1, tq_139_6, tq_139_7, tq_139_8, tq_139_9, tq_139_10, tq_139_12, tq_139_13, tq_139_14, tq_139_15, tq_139_16, tq_139_17, tq_139_18, tq_139_19, tq_139_21, tq_139_22, tq_139_24, tq_139_26, tq_139_27, tq_139_28, tq_139_34, tq_139_35, tq_139_36, tq_139_37, tk_157, tj_157, tk_158, tj_158, tk_159, tj_159, tw_va_s, tw_va_n, tw_K_s, tw_K_n, and_true, true_and, and_false, false_and, true_or, or_true, not_true_eq_false, not_false_eq_true, ↓reduceIte, Nat.reduceEqDiff, h1, c1, nI_clamp (show Z.1 < 2 ^ 31 by omega), vp_in_nI h (by omega), tw_st_ap, Nat.reduceEqDiff, nI_1]
    refine hQ _ ⟨by show Z.1 + 1 ≤ 400; omega, by simp [tw_st_ap], fun j hj => ?_⟩ (fun a a1 a2 a3 a4 => by simp only [tw_st_ap, if_neg a1, if_neg a2, if_neg a3, if_neg a4]) (fun c hc => by simp only [tw_st_ap, ↓reduceIte, Nat.reduceEqDiff, if_neg hc])
    simp only [tw_st_ap, Nat.reduceEqDiff, ↓reduceIte]
    by_cases hj2 : j = Z.1
    · simp [hj2]
    · have hj3 : j < Z.1 + 1 := hj
      simp only [if_neg hj2]
      exact hm j (by omega)
  · rw [if_neg h] at hQ
    have c1 : (400 : Int32) ≤ nI Z.1 := nI_le (a := 400) (by omega) (by omega)
    simp only [tz_164_0, tz_164_1, tz_164_4, tz_164_7, tz_164_10, tz_164_11, tz_164_14, tz_164_15, tz_164_18, tz_164_19, tz_164_20, tz_164_21, tz_164_24, tz_164_25, tz_164_28, tz_164_29, tz_164_30, tz_164_31, tz_164_34, tz_164_35, tz_164_38, tz_164_39, tz_164_40, tz_164_41, tz_164_42, tz_164_45, tz_164_46, tz_164_47, tz_164_50, tk_139, tq_139_1, tq_139_6, tq_139_7, tq_139_8, tq_139_9, tq_139_10, tq_139_12, tq_139_13, tq_139_14, tq_139_15, tq_139_16, tq_139_17, tq_139_18, tq_139_19, tq_139_21, tq_139_22, tq_139_24, tq_139_26, tq_139_27, tq_139_28, tq_139_34, tq_139_35, tq_139_36, tq_139_37, tw_va_s, tw_va_n, tw_K_s, tw_K_n, and_true, true_and, and_false, false_and, true_or, or_true, not_true_eq_false, not_false_eq_true, ↓reduceIte, Nat.reduceEqDiff, h1, c1]
    exact hQ mi ⟨h4, h1, hm⟩ (fun _ _ _ _ _ => rfl) (fun _ _ => rfl)
set_option maxRecDepth 100000 in
theorem tw_p_wire (hC : tw_Ch mi T sm hd) {j : Nat} (hj : j < 2 ^ 31) (w : Int32) : tw_E sc (d + 1) 96 0 [some (.ref 128), some (.int (nI j)), some (.int w)] [] tw_g0 mi (tw_r0 t s i) Q = Q (some (.int (if j < T then tw_bt (sm j) w else -1))) tw_g0 mi (tw_r0 t s i) := by
  obtain ⟨hT, h1, h2, h3, h4⟩ := hC
  have c1 : ¬ nI j < 0 := nI_pos hj
  by_cases h : j < T
  · have c2 : ¬ nI T ≤ nI j := nI_ge h (by omega)
    simp only [tz_96_0, tz_96_1, tz_96_2, tz_96_5, tz_96_8, tz_96_9, tz_96_12, tz_96_13, tz_96_14, tz_96_15, tz_96_18, tz_96_21, tz_96_22, tz_94_0, tz_94_1, tz_94_4, tz_94_5, tz_94_6, tz_94_9, tz_94_12, tz_94_13, tz_94_16, tz_94_17, tz_31_0, tz_31_1, tz_31_2, tz_31_3, tz_31_4, tz_31_5, tk_128, tq_128_0, tq_128_1, tk_129, tj_129, tw_va_s, tw_va_n, tw_K_s, tw_K_n, and_true, true_and, and_false, false_and, true_or, or_true, not_true_eq_false, not_false_eq_true, ↓reduceIte, Nat.reduceEqDiff, h1, c1, c2, h, nI_clamp hj, vp_in_nI (show j < 4000 by omega) (by omega), h3 j h, show ¬ (1 : Int32) = 0 by decide]
    rfl
  · have c2 : nI T ≤ nI j := nI_le (by omega) hj
    simp only [tz_96_0, tz_96_1, tz_96_2, tz_96_5, tz_96_8, tz_96_9, tz_96_12, tz_96_13, tz_96_14, tz_96_15, tz_96_18, tz_96_21, tz_96_22, tz_94_0, tz_94_1, tz_94_4, tz_94_5, tz_94_6, tz_94_9, tz_94_12, tz_94_13, tz_94_16, tz_94_17, tk_128, tq_128_0, tq_128_1, tw_va_s, tw_va_n, tw_K_s, tw_K_n, and_true, true_and, and_false, false_and, true_or, or_true, not_true_eq_false, not_false_eq_true, ↓reduceIte, Nat.reduceEqDiff, h1, c1, c2, h]
set_option maxRecDepth 100000 in
theorem tw_p_come (hC : tw_Ch mi T sm hd) {j : Nat} (hj : j < 2 ^ 31) : tw_E sc d 94 0 [some (.ref 128), some (.int (nI j))] [] tw_g0 mi (tw_r0 t s i) Q = Q (some (.int (if j < T then 1 else 0))) tw_g0 mi (tw_r0 t s i) := by
  obtain ⟨hT, h1, h2, h3, h4⟩ := hC
  have c1 : ¬ nI j < 0 := nI_pos hj
  by_cases h : j < T
  · have c2 : ¬ nI T ≤ nI j := nI_ge h (by omega)
    simp only [tz_94_0, tz_94_1, tz_94_4, tz_94_5, tz_94_6, tz_94_9, tz_94_12, tz_94_13, tz_94_16, tz_94_17, tk_128, tq_128_0, tq_128_1, tw_va_s, tw_va_n, tw_K_s, tw_K_n, and_true, true_and, and_false, false_and, true_or, or_true, not_true_eq_false, not_false_eq_true, ↓reduceIte, Nat.reduceEqDiff, h1, c1, c2, h]
  · have c2 : nI T ≤ nI j := nI_le (by omega) hj
    simp only [tz_94_0, tz_94_1, tz_94_4, tz_94_5, tz_94_6, tz_94_9, tz_94_12, tz_94_13, tz_94_16, tz_94_17, tk_128, tq_128_0, tq_128_1, tw_va_s, tw_va_n, tw_K_s, tw_K_n, and_true, true_and, and_false, false_and, true_or, or_true, not_true_eq_false, not_false_eq_true, ↓reduceIte, Nat.reduceEqDiff, h1, c1, c2, h]
set_option maxRecDepth 100000 in
theorem tw_bt1 (x w : Int32) : tw_bt x w &&& 1 = tw_bt x w := by rcases tw_bt01 x w with h | h <;> rw [h] <;> rfl
set_option maxRecDepth 100000 in
theorem tw_p_vall (hC : tw_Ch mi T sm hd) {w : Int32} {m : Nat} (hk : k ≤ 20) (hm : m + k * 8 < T) : ∀ f j, 8 = j + f → tw_E sc (d + 2) 120 6 [some (.ref 137), some (.int w), some (.int (nI k)), some (.int (nI m)), some (.int (tw_val (fun j => tw_bt (sm j) w) k m j)), some (.int (nI j))] [] tw_g0 mi (tw_r0 t s i) Q = Q (some (.int (tw_val (fun j => tw_bt (sm j) w) k m 8))) tw_g0 mi (tw_r0 t s i) := by
  have hT := hC.1
  intro f
  induction f with
  | zero =>
    intro j hj
    obtain rfl : j = 8 := by omega
    rw [tz_120_6]
    simp only [tz_120_0, tz_120_1, tz_120_3, tz_120_4, tz_120_8, tz_120_10, tz_120_13, tz_120_15, tz_120_16, tz_120_19, tz_120_20, tz_120_21, tz_120_23, tz_120_24, tz_120_25, tz_120_26, tz_120_27, tz_120_28, tz_120_31, tz_120_32, tz_120_33, tz_120_35, tz_120_36, tz_120_37, tz_120_39, tz_120_42, tz_120_45, tz_120_47, tw_va_s, tw_va_n, tw_K_s, tw_K_n, and_true, true_and, and_false, false_and, true_or, or_true, not_true_eq_false, not_false_eq_true, ↓reduceIte, Nat.reduceEqDiff, tl8]
    rw [tw_le_t (by omega) (by omega)]
  | succ f ih =>
    intro j hj
    have hb : k * (j + 1) ≤ k * 8 := Nat.mul_le_mul_left k (by omega)
    have e1 : nI m + nI k * nI (j + 1) = nI (m + k * (j + 1)) := by rw [pk_mul, nI_add]
    have := ih (j + 1) (by omega)
    rw [tz_120_6]
    simp only [tz_120_0, tz_120_1, tz_120_3, tz_120_4, tz_120_8, tz_120_10, tz_120_13, tz_120_15, tz_120_16, tz_120_19, tz_120_20, tz_120_21, tz_120_23, tz_120_24, tz_120_25, tz_120_26, tz_120_27, tz_120_28, tz_120_31, tz_120_32, tz_120_33, tz_120_35, tz_120_36, tz_120_37, tz_120_39, tz_120_42, tz_120_45, tz_120_47, tk_137, tq_137_0, tq_137_1, tk_128, tq_128_0, tq_128_1, tk_133, tq_133_0, tq_133_1, tq_133_2, tw_va_s, tw_va_n, tw_K_s, tw_K_n, and_true, true_and, and_false, false_and, true_or, or_true, not_true_eq_false, not_false_eq_true, ↓reduceIte, Nat.reduceEqDiff, tl8, nI_1, e1, tw_p_wire hC (show m + k * (j + 1) < 2 ^ 31 by omega), show m + k * (j + 1) < T by omega, tw_bt1]
    rw [tw_le_f (by omega) (by omega)]
    exact this
set_option maxRecDepth 100000 in
theorem tw_p_val (hC : tw_Ch mi T sm hd) {w : Int32} {m : Nat} (hk : k ≤ 20) (hm : m + k * 8 < T) : tw_E sc (d + 2) 120 0 [some (.ref 137), some (.int w), some (.int (nI k)), some (.int (nI m)), none, none] [] tw_g0 mi (tw_r0 t s i) Q = Q (some (.int (tw_val (fun j => tw_bt (sm j) w) k m 8))) tw_g0 mi (tw_r0 t s i) := by
  rw [tz_120_0, tz_120_1, tz_120_3, tz_120_4]
  exact tw_p_vall hC hk hm 8 0 rfl
set_option maxRecDepth 100000 in
theorem tw_p_frm (hC : tw_Ch mi T sm hd) (hZ : tw_CK mi Z) {w : Int32} {s' : Nat} (hk : k ≤ 20) (hs : s' < 4000)
    (hQ : ∀ mi', tw_CK mi' (tw_frm (fun j => tw_bt (sm j) w) T k s' Z).2 → (∀ a, a ≠ 133 → a ≠ 134 → a ≠ 135 → a ≠ 136 → mi' a = mi a) → Q (some (.int (tw_oi (tw_frm (fun j => tw_bt (sm j) w) T k s' Z).1))) tw_g0 mi' (tw_r0 t s i)) :
    tw_E sc (d + 3) 119 0 [some (.ref 137), some (.int w), some (.int (nI k)), some (.int (nI s')), none, none] [] tw_g0 mi (tw_r0 t s i) Q := by
  have hT := hC.1
  have e1 : nI s' + nI k / nI 2 = nI (s' + k / 2) := by rw [pk_div (by omega) (by omega) (by omega), nI_add]
  have e2 : nI (s' + k / 2) + nI 9 * nI k = nI (s' + k / 2 + 9 * k) := by rw [pk_mul, nI_add]
  simp only [tz_119_0, tz_119_1, tz_119_2, tz_119_3, tz_119_4, tz_119_5, tz_119_7, tz_119_8, tz_119_11, tz_119_13, tz_119_14, tz_119_17, tz_119_18, tz_119_21, tz_119_22, tz_119_25, tz_119_26, tz_119_28, tz_119_31, tz_119_33, tz_119_34, tz_119_36, tz_119_38, tz_119_39, tz_119_40, tz_119_41, tz_119_43, tz_119_44, tz_119_47, tz_119_49, tz_119_52, tz_119_55, tz_119_57, tz_119_58, tz_119_59, tz_119_62, tz_119_64, tz_119_65, tz_119_68, tz_119_69, tz_119_72, tz_119_73, tz_119_76, tz_119_77, tz_119_78, tz_119_79, tz_119_81, tz_119_84, tz_119_85, tz_119_88, tz_119_91, tz_119_92, tz_119_95, tz_119_96, tz_119_98, tz_119_101, tz_119_103, tk_137, tq_137_0, tq_137_1, tk_128, tq_128_0, tq_128_1, tk_133, tq_133_0, tq_133_1, tq_133_2, tw_va_s, tw_va_n, tw_K_s, tw_K_n, and_true, true_and, and_false, false_and, true_or, or_true, not_true_eq_false, not_false_eq_true, ↓reduceIte, Nat.reduceEqDiff, tl2, tl9, e1, e2, tw_p_wire hC (show s' + k / 2 < 2 ^ 31 by omega)]
  refine ⟨by decide, ?_⟩
  unfold tw_frm at hQ
  by_cases h1 : s' + k / 2 < T ∧ tw_bt (sm (s' + k / 2)) w = 1
  · rw [if_pos h1] at hQ
    rw [if_pos h1.1]
    simp only [h1.2, not_true_eq_false, ↓reduceIte]
    simp only [tz_119_0, tz_119_1, tz_119_2, tz_119_3, tz_119_4, tz_119_5, tz_119_7, tz_119_8, tz_119_11, tz_119_13, tz_119_14, tz_119_17, tz_119_18, tz_119_21, tz_119_22, tz_119_25, tz_119_26, tz_119_28, tz_119_31, tz_119_33, tz_119_34, tz_119_36, tz_119_38, tz_119_39, tz_119_40, tz_119_41, tz_119_43, tz_119_44, tz_119_47, tz_119_49, tz_119_52, tz_119_55, tz_119_57, tz_119_58, tz_119_59, tz_119_62, tz_119_64, tz_119_65, tz_119_68, tz_119_69, tz_119_72, tz_119_73, tz_119_76, tz_119_77, tz_119_78, tz_119_79, tz_119_81, tz_119_84, tz_119_85, tz_119_88, tz_119_91, tz_119_92, tz_119_95, tz_119_96, tz_119_98, tz_119_101, tz_119_103, tz_113_0, tz_113_1, tz_113_2, tz_113_4, tz_113_5, tz_113_8, tk_137, tq_137_0, tq_137_1, tk_128, tq_128_0, tq_128_1, tk_133, tq_133_0, tq_133_1, tq_133_2, tw_va_s, tw_va_n, tw_K_s, tw_K_n, and_true, true_and, and_false, false_and, true_or, or_true, not_true_eq_false, not_false_eq_true, ↓reduceIte, Nat.reduceEqDiff]
    refine tw_p_add hZ _ _ _ (fun mi' w1 w2 => ?_)
    simp only [tz_119_0, tz_119_1, tz_119_2, tz_119_3, tz_119_4, tz_119_5, tz_119_7, tz_119_8, tz_119_11, tz_119_13, tz_119_14, tz_119_17, tz_119_18, tz_119_21, tz_119_22, tz_119_25, tz_119_26, tz_119_28, tz_119_31, tz_119_33, tz_119_34, tz_119_36, tz_119_38, tz_119_39, tz_119_40, tz_119_41, tz_119_43, tz_119_44, tz_119_47, tz_119_49, tz_119_52, tz_119_55, tz_119_57, tz_119_58, tz_119_59, tz_119_62, tz_119_64, tz_119_65, tz_119_68, tz_119_69, tz_119_72, tz_119_73, tz_119_76, tz_119_77, tz_119_78, tz_119_79, tz_119_81, tz_119_84, tz_119_85, tz_119_88, tz_119_91, tz_119_92, tz_119_95, tz_119_96, tz_119_98, tz_119_101, tz_119_103, tz_113_0, tz_113_1, tz_113_2, tz_113_4, tz_113_5, tz_113_8, tw_va_s, tw_va_n, tw_K_s, tw_K_n, and_true, true_and, and_false, false_and, true_or, or_true, not_true_eq_false, not_false_eq_true, ↓reduceIte, Nat.reduceEqDiff]
    exact hQ mi' w1 w2
  · rw [if_neg h1] at hQ
    have n1 : ¬ (if s' + k / 2 < T then tw_bt (sm (s' + k / 2)) w else -1) = 1 := by
      intro e
      by_cases c : s' + k / 2 < T
      · rw [if_pos c] at e; exact h1 ⟨c, e⟩
      · rw [if_neg c] at e; exact absurd e (by decide)
    simp only [n1, not_false_eq_true, ↓reduceIte, tw_p_come hC (show s' + k / 2 + 9 * k < 2 ^ 31 by omega)]
    by_cases h2 : s' + k / 2 + 9 * k < T
    · rw [if_pos h2] at hQ
      simp only [tz_119_0, tz_119_1, tz_119_2, tz_119_3, tz_119_4, tz_119_5, tz_119_7, tz_119_8, tz_119_11, tz_119_13, tz_119_14, tz_119_17, tz_119_18, tz_119_21, tz_119_22, tz_119_25, tz_119_26, tz_119_28, tz_119_31, tz_119_33, tz_119_34, tz_119_36, tz_119_38, tz_119_39, tz_119_40, tz_119_41, tz_119_43, tz_119_44, tz_119_47, tz_119_49, tz_119_52, tz_119_55, tz_119_57, tz_119_58, tz_119_59, tz_119_62, tz_119_64, tz_119_65, tz_119_68, tz_119_69, tz_119_72, tz_119_73, tz_119_76, tz_119_77, tz_119_78, tz_119_79, tz_119_81, tz_119_84, tz_119_85, tz_119_88, tz_119_91, tz_119_92, tz_119_95, tz_119_96, tz_119_98, tz_119_101, tz_119_103, tk_137, tq_137_0, tq_137_1, tk_128, tq_128_0, tq_128_1, tk_133, tq_133_0, tq_133_1, tq_133_2, tw_va_s, tw_va_n, tw_K_s, tw_K_n, and_true, true_and, and_false, false_and, true_or, or_true, not_true_eq_false, not_false_eq_true, ↓reduceIte, Nat.reduceEqDiff, h2, tw_p_wire hC (show s' + k / 2 + 9 * k < 2 ^ 31 by omega), show ¬ (1 : Int32) = 0 by decide]
      by_cases h3 : tw_bt (sm (s' + k / 2 + 9 * k)) w = 1
      · rw [if_pos h3] at hQ
        simp only [h3, not_true_eq_false, ↓reduceIte, tw_p_val hC hk (show s' + k / 2 + k * 8 < T by omega), tz_119_0, tz_119_1, tz_119_2, tz_119_3, tz_119_4, tz_119_5, tz_119_7, tz_119_8, tz_119_11, tz_119_13, tz_119_14, tz_119_17, tz_119_18, tz_119_21, tz_119_22, tz_119_25, tz_119_26, tz_119_28, tz_119_31, tz_119_33, tz_119_34, tz_119_36, tz_119_38, tz_119_39, tz_119_40, tz_119_41, tz_119_43, tz_119_44, tz_119_47, tz_119_49, tz_119_52, tz_119_55, tz_119_57, tz_119_58, tz_119_59, tz_119_62, tz_119_64, tz_119_65, tz_119_68, tz_119_69, tz_119_72, tz_119_73, tz_119_76, tz_119_77, tz_119_78, tz_119_79, tz_119_81, tz_119_84, tz_119_85, tz_119_88, tz_119_91, tz_119_92, tz_119_95, tz_119_96, tz_119_98, tz_119_101, tz_119_103, tz_112_0, tz_112_1, tz_112_2, tz_112_3, tz_112_4, tz_112_7, tk_137, tq_137_0, tq_137_1, tk_128, tq_128_0, tq_128_1, tk_133, tq_133_0, tq_133_1, tq_133_2, tw_va_s, tw_va_n, tw_K_s, tw_K_n, and_true, true_and, and_false, false_and, true_or, or_true, not_true_eq_false, not_false_eq_true, ↓reduceIte, Nat.reduceEqDiff]
        refine tw_p_add hZ _ _ _ (fun mi' w1 w2 => ?_)
        simp only [tz_119_0, tz_119_1, tz_119_2, tz_119_3, tz_119_4, tz_119_5, tz_119_7, tz_119_8, tz_119_11, tz_119_13, tz_119_14, tz_119_17, tz_119_18, tz_119_21, tz_119_22, tz_119_25, tz_119_26, tz_119_28, tz_119_31, tz_119_33, tz_119_34, tz_119_36, tz_119_38, tz_119_39, tz_119_40, tz_119_41, tz_119_43, tz_119_44, tz_119_47, tz_119_49, tz_119_52, tz_119_55, tz_119_57, tz_119_58, tz_119_59, tz_119_62, tz_119_64, tz_119_65, tz_119_68, tz_119_69, tz_119_72, tz_119_73, tz_119_76, tz_119_77, tz_119_78, tz_119_79, tz_119_81, tz_119_84, tz_119_85, tz_119_88, tz_119_91, tz_119_92, tz_119_95, tz_119_96, tz_119_98, tz_119_101, tz_119_103, tz_112_0, tz_112_1, tz_112_2, tz_112_3, tz_112_4, tz_112_7, tw_va_s, tw_va_n, tw_K_s, tw_K_n, and_true, true_and, and_false, false_and, true_or, or_true, not_true_eq_false, not_false_eq_true, ↓reduceIte, Nat.reduceEqDiff]
        exact hQ mi' w1 w2
      · rw [if_neg h3] at hQ
        simp only [h3, not_false_eq_true, ↓reduceIte, tz_119_0, tz_119_1, tz_119_2, tz_119_3, tz_119_4, tz_119_5, tz_119_7, tz_119_8, tz_119_11, tz_119_13, tz_119_14, tz_119_17, tz_119_18, tz_119_21, tz_119_22, tz_119_25, tz_119_26, tz_119_28, tz_119_31, tz_119_33, tz_119_34, tz_119_36, tz_119_38, tz_119_39, tz_119_40, tz_119_41, tz_119_43, tz_119_44, tz_119_47, tz_119_49, tz_119_52, tz_119_55, tz_119_57, tz_119_58, tz_119_59, tz_119_62, tz_119_64, tz_119_65, tz_119_68, tz_119_69, tz_119_72, tz_119_73, tz_119_76, tz_119_77, tz_119_78, tz_119_79, tz_119_81, tz_119_84, tz_119_85, tz_119_88, tz_119_91, tz_119_92, tz_119_95, tz_119_96, tz_119_98, tz_119_101, tz_119_103, tz_113_0, tz_113_1, tz_113_2, tz_113_4, tz_113_5, tz_113_8, tk_137, tq_137_0, tq_137_1, tk_128, tq_128_0, tq_128_1, tk_133, tq_133_0, tq_133_1, tq_133_2, tw_va_s, tw_va_n, tw_K_s, tw_K_n, and_true, true_and, and_false, false_and, true_or, or_true, not_true_eq_false, not_false_eq_true, ↓reduceIte, Nat.reduceEqDiff]
        refine tw_p_add hZ _ _ _ (fun mi' w1 w2 => ?_)
        simp only [tz_119_0, tz_119_1, tz_119_2, tz_119_3, tz_119_4, tz_119_5, tz_119_7, tz_119_8, tz_119_11, tz_119_13, tz_119_14, tz_119_17, tz_119_18, tz_119_21, tz_119_22, tz_119_25, tz_119_26, tz_119_28, tz_119_31, tz_119_33, tz_119_34, tz_119_36, tz_119_38, tz_119_39, tz_119_40, tz_119_41, tz_119_43, tz_119_44, tz_119_47, tz_119_49, tz_119_52, tz_119_55, tz_119_57, tz_119_58, tz_119_59, tz_119_62, tz_119_64, tz_119_65, tz_119_68, tz_119_69, tz_119_72, tz_119_73, tz_119_76, tz_119_77, tz_119_78, tz_119_79, tz_119_81, tz_119_84, tz_119_85, tz_119_88, tz_119_91, tz_119_92, tz_119_95, tz_119_96, tz_119_98, tz_119_101, tz_119_103, tz_113_0, tz_113_1, tz_113_2, tz_113_4, tz_113_5, tz_113_8, tw_va_s, tw_va_n, tw_K_s, tw_K_n, and_true, true_and, and_false, false_and, true_or, or_true, not_true_eq_false, not_false_eq_true, ↓reduceIte, Nat.reduceEqDiff]
        exact hQ mi' w1 w2
    · rw [if_neg h2] at hQ
      simp only [h2, ↓reduceIte, tz_119_0, tz_119_1, tz_119_2, tz_119_3, tz_119_4, tz_119_5, tz_119_7, tz_119_8, tz_119_11, tz_119_13, tz_119_14, tz_119_17, tz_119_18, tz_119_21, tz_119_22, tz_119_25, tz_119_26, tz_119_28, tz_119_31, tz_119_33, tz_119_34, tz_119_36, tz_119_38, tz_119_39, tz_119_40, tz_119_41, tz_119_43, tz_119_44, tz_119_47, tz_119_49, tz_119_52, tz_119_55, tz_119_57, tz_119_58, tz_119_59, tz_119_62, tz_119_64, tz_119_65, tz_119_68, tz_119_69, tz_119_72, tz_119_73, tz_119_76, tz_119_77, tz_119_78, tz_119_79, tz_119_81, tz_119_84, tz_119_85, tz_119_88, tz_119_91, tz_119_92, tz_119_95, tz_119_96, tz_119_98, tz_119_101, tz_119_103, tk_137, tq_137_0, tq_137_1, tk_128, tq_128_0, tq_128_1, tk_133, tq_133_0, tq_133_1, tq_133_2, tw_va_s, tw_va_n, tw_K_s, tw_K_n, and_true, true_and, and_false, false_and, true_or, or_true, not_true_eq_false, not_false_eq_true, ↓reduceIte, Nat.reduceEqDiff]
      exact hQ mi hZ (fun _ _ _ _ _ => rfl)
end tw_marks
