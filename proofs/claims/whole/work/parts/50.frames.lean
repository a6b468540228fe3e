/-! frames: the class's -/
def tw_fbf (bt : Nat → Int32) (T : Nat) : Nat → Nat → Option Nat
  | 0, _ => none
  | f + 1, t => if t < T then (if tw_beg bt t then some t else tw_fbf bt T f (t + 1)) else none
def tw_frf (bt : Nat → Int32) (T k : Nat) : Nat → Nat → tw_Km → tw_Km
  | 0, _, Z => Z
  | f + 1, t, Z => if t < T ∧ Z.1 < 400 then (if tw_beg bt t then (match (tw_frm bt T k t Z).1 with
      | none => (tw_frm bt T k t Z).2
      | some l => tw_frf bt T k f (l + 1) (tw_frm bt T k t Z).2) else tw_frf bt T k f (t + 1) Z) else Z
/-- the first beginning from t on; all frames from t on -/
def tw_FB (bt : Nat → Int32) (T t : Nat) : Option Nat := tw_fbf bt T T t
def tw_FR (bt : Nat → Int32) (T k t : Nat) (Z : tw_Km) : tw_Km := tw_frf bt T k T t Z
section tw_fpure
variable {bt : Nat → Int32} {T k : Nat}
set_option maxRecDepth 100000 in
theorem tw_frm_l {t l : Nat} {Z : tw_Km} (h : (tw_frm bt T k t Z).1 = some l) : t ≤ l ∧ l < T := by
  unfold tw_frm at h
  by_cases h1 : t + k / 2 < T ∧ bt (t + k / 2) = 1
  · rw [if_pos h1] at h
    have : t + k / 2 = l := Option.some.inj h
    omega
  · rw [if_neg h1] at h
    by_cases h2 : t + k / 2 + 9 * k < T
    · rw [if_pos h2] at h
      have : t + k / 2 + 9 * k = l := Option.some.inj h
      omega
    · rw [if_neg h2] at h
      exact absurd h (by simp)
set_option maxRecDepth 100000 in
theorem tw_fbf_s (f t : Nat) : tw_fbf bt T (f + 1) t = if t < T then (if tw_beg bt t then some t else tw_fbf bt T f (t + 1)) else none := rfl
set_option maxRecDepth 100000 in
theorem tw_frf_s (f t : Nat) (Z : tw_Km) : tw_frf bt T k (f + 1) t Z = if t < T ∧ Z.1 < 400 then (if tw_beg bt t then (match (tw_frm bt T k t Z).1 with
      | none => (tw_frm bt T k t Z).2
      | some l => tw_frf bt T k f (l + 1) (tw_frm bt T k t Z).2) else tw_frf bt T k f (t + 1) Z) else Z := rfl
set_option maxRecDepth 100000 in
theorem tw_fbf_1 : ∀ f t, T - t ≤ f → tw_fbf bt T (f + 1) t = tw_fbf bt T f t := by
  intro f
  induction f with
  | zero => intro t h; simp only [tw_fbf]; rw [if_neg (by omega)]
  | succ f ih =>
    intro t h
    rw [tw_fbf_s (f + 1) t, tw_fbf_s f t]
    by_cases h1 : t < T
    · rw [if_pos h1, if_pos h1, ih (t + 1) (by omega)]
    · rw [if_neg h1, if_neg h1]
set_option maxRecDepth 100000 in
theorem tw_frf_1 : ∀ f t Z, T - t ≤ f → tw_frf bt T k (f + 1) t Z = tw_frf bt T k f t Z := by
  intro f
  induction f with
  | zero => intro t Z h; simp only [tw_frf]; rw [if_neg (by omega)]
  | succ f ih =>
    intro t Z h
    rw [tw_frf_s (f + 1) t, tw_frf_s f t]
    by_cases h1 : t < T ∧ Z.1 < 400
    · rw [if_pos h1, if_pos h1, ih (t + 1) Z (by omega)]
      by_cases h2 : tw_beg bt t
      · rw [if_pos h2, if_pos h2]
        cases h3 : (tw_frm bt T k t Z).1 with
        | none => rfl
        | some l =>
          have := tw_frm_l h3
          exact ih (l + 1) _ (by omega)
      · rw [if_neg h2, if_neg h2]
    · rw [if_neg h1, if_neg h1]
set_option maxRecDepth 100000 in
theorem tw_FB_eq (t : Nat) : tw_FB bt T t = if t < T then (if tw_beg bt t then some t else tw_FB bt T (t + 1)) else none := by
  have h : tw_FB bt T t = tw_fbf bt T (T + 1) t := (tw_fbf_1 T t (by omega)).symm
  rw [h, tw_fbf]
  rfl
set_option maxRecDepth 100000 in
theorem tw_FR_eq (t : Nat) (Z : tw_Km) : tw_FR bt T k t Z = if t < T ∧ Z.1 < 400 then (if tw_beg bt t then (match (tw_frm bt T k t Z).1 with
      | none => (tw_frm bt T k t Z).2
      | some l => tw_FR bt T k (l + 1) (tw_frm bt T k t Z).2) else tw_FR bt T k (t + 1) Z) else Z := by
  have h : tw_FR bt T k t Z = tw_frf bt T k (T + 1) t Z := (tw_frf_1 T t Z (by omega)).symm
  rw [h, tw_frf]
  rfl
set_option maxRecDepth 100000 in
theorem tw_FB_FR : ∀ n t Z, T - t ≤ n → (tw_FB bt T t = none → tw_FR bt T k t Z = Z) ∧ ∀ s, tw_FB bt T t = some s → t ≤ s ∧ s < T ∧ tw_beg bt s ∧ tw_FR bt T k t Z = tw_FR bt T k s Z := by
  intro n
  induction n with
  | zero =>
    intro t Z h
    rw [tw_FB_eq, if_neg (by omega)]
    refine ⟨fun _ => ?_, fun s hs => absurd hs (by simp)⟩
    rw [tw_FR_eq, if_neg (by omega)]
  | succ n ih =>
    intro t Z h
    rw [tw_FB_eq]
    by_cases h1 : t < T
    · rw [if_pos h1]
      by_cases h2 : tw_beg bt t
      · rw [if_pos h2]
        refine ⟨fun e => absurd e (by simp), fun s hs => ?_⟩
        have : t = s := Option.some.inj hs
        subst this
        exact ⟨Nat.le_refl _, h1, h2, rfl⟩
      · rw [if_neg h2]
        obtain ⟨a, b⟩ := ih (t + 1) Z (by omega)
        have e : tw_FR bt T k t Z = tw_FR bt T k (t + 1) Z := by
          rw [tw_FR_eq]
          by_cases h3 : Z.1 < 400
          · rw [if_pos ⟨h1, h3⟩, if_neg h2]
          · rw [if_neg (fun z => h3 z.2), tw_FR_eq, if_neg (fun z => h3 z.2)]
        rw [e]
        refine ⟨a, fun s hs => ?_⟩
        obtain ⟨c1, c2, c3, c4⟩ := b s hs
        exact ⟨by omega, c2, c3, c4⟩
    · rw [if_neg h1]
      refine ⟨fun _ => ?_, fun s hs => absurd hs (by simp)⟩
      rw [tw_FR_eq, if_neg (fun z => h1 z.1)]
end tw_fpure
def tw_frq (S : tw_Hs) (Z : tw_Km) (wi k : Int32) : tw_Km × Int32 :=
  if 0 ≤ wi ∧ wi ≤ 15 then (if 1 ≤ k ∧ k ≤ 20 then (tw_FR (fun j => tw_bt (S.2.1 j) wi) S.1 k.toNatClampNeg 0 (0, Z.2), nI (tw_FR (fun j => tw_bt (S.2.1 j) wi) S.1 k.toNatClampNeg 0 (0, Z.2)).1) else (Z, -2)) else (Z, -1)
set_option maxRecDepth 100000 in
theorem tw_oi_s (n : Nat) : tw_oi (some n) = nI n := rfl
set_option maxRecDepth 100000 in
theorem tw_oi_n : tw_oi none = -9 := rfl
set_option maxRecDepth 100000 in
theorem tw_ni9 {n : Nat} (h : n < 2 ^ 31) : ¬ nI n = -9 := fun e => by
  have := nI_pos h
  rw [e] at this
  exact this (by decide)
section tw_frames
variable {sc : Nat × (Nat → Int32)} {d t s i N k T : Nat} {mi : tw_I} {Q : Option Value → tw_G → tw_I → tw_Q → Prop} {Z : tw_Km} {sm hd : Nat → Int32}
set_option maxRecDepth 100000 in
theorem tw_Ch_fr2 (hC : tw_Ch mi T sm hd) {mi' : tw_I} (h : ∀ a, a ≠ 133 → a ≠ 134 → a ≠ 135 → a ≠ 136 → mi' a = mi a) : tw_Ch mi' T sm hd := by
  unfold tw_Ch at hC ⊢
  rw [h 128 (by decide) (by decide) (by decide) (by decide), h 129 (by decide) (by decide) (by decide) (by decide), h 130 (by decide) (by decide) (by decide) (by decide)]
  exact hC
set_option maxRecDepth 100000 in
theorem tw_p_fbl (hC : tw_Ch mi T sm hd) {w : Int32} : ∀ n t' (x2 x4 : Option Value), T - t' ≤ n → t' ≤ 4000 → tw_E sc (d + 2) 118 2 [some (.ref 137), some (.int w), x2, some (.int (nI t')), x4] [] tw_g0 mi (tw_r0 t s i) Q = Q (some (.int (tw_oi (tw_FB (fun j => tw_bt (sm j) w) T t')))) tw_g0 mi (tw_r0 t s i) := by
  have hT := hC.1
  have h1 := hC.2.1
  intro n
  induction n with
  | zero =>
    intro t' x2 x4 hn h4
    rw [tw_FB_eq, if_neg (by omega), tz_118_2]
    simp only [tz_118_0, tz_118_1, tz_118_3, tz_118_4, tz_118_7, tz_118_10, tz_118_13, tz_118_14, tz_118_17, tz_118_18, tz_118_21, tz_118_22, tz_118_23, tz_118_24, tz_118_25, tz_118_28, tz_118_29, tz_118_32, tz_118_33, tz_118_36, tz_118_37, tz_118_39, tz_118_41, tz_118_44, tz_118_45, tz_118_48, tz_118_49, tz_118_50, tz_118_53, tz_118_56, tz_118_57, tz_118_58, tz_118_61, tz_118_64, tz_118_66, tz_90_0, tz_90_1, tz_90_4, tk_137, tq_137_0, tq_137_1, tk_128, tq_128_0, tq_128_1, tw_va_s, tw_va_n, tw_K_s, tw_K_n, and_true, true_and, and_false, false_and, true_or, or_true, not_true_eq_false, not_false_eq_true, ↓reduceIte, Nat.reduceEqDiff, h1]
    rw [tw_le_t (by omega) (by omega)]
    rfl
  | succ n ih =>
    intro t' x2 x4 hn h4
    rw [tw_FB_eq, tz_118_2]
    by_cases h : t' < T
    · rw [if_pos h]
      simp only [tz_118_0, tz_118_1, tz_118_3, tz_118_4, tz_118_7, tz_118_10, tz_118_13, tz_118_14, tz_118_17, tz_118_18, tz_118_21, tz_118_22, tz_118_23, tz_118_24, tz_118_25, tz_118_28, tz_118_29, tz_118_32, tz_118_33, tz_118_36, tz_118_37, tz_118_39, tz_118_41, tz_118_44, tz_118_45, tz_118_48, tz_118_49, tz_118_50, tz_118_53, tz_118_56, tz_118_57, tz_118_58, tz_118_61, tz_118_64, tz_118_66, tz_90_0, tz_90_1, tz_90_4, tk_137, tq_137_0, tq_137_1, tk_128, tq_128_0, tq_128_1, tw_va_s, tw_va_n, tw_K_s, tw_K_n, and_true, true_and, and_false, false_and, true_or, or_true, not_true_eq_false, not_false_eq_true, ↓reduceIte, Nat.reduceEqDiff, h1]
      rw [tw_le_f (by omega) (by omega)]
      have hw0 : ∀ (d : Nat) (Q : Option Value → tw_G → tw_I → tw_Q → Prop), tw_E sc (d + 1) 96 0 [some (.ref 128), some (.int (nI t')), some (.int w)] [] tw_g0 mi (tw_r0 t s i) Q = Q (some (.int (tw_bt (sm t') w))) tw_g0 mi (tw_r0 t s i) := fun d Q => by rw [tw_p_wire hC (by omega), if_pos h]
      have hb := tw_bt01 (sm t') w
      by_cases h0 : t' = 0
      · have e0 : nI t' = 0 := by rw [h0]; rfl
        by_cases c : tw_bt (sm t') w = 0
        · have hb2 : tw_beg (fun j => tw_bt (sm j) w) t' := ⟨c, Or.inl h0⟩
          rw [if_pos hb2, if_pos e0]
          simp only [tk_128, tq_128_0, tq_128_1, tk_137, tq_137_0, tq_137_1, tw_va_s, tw_va_n, tw_K_s, tw_K_n, and_true, true_and, and_false, false_and, true_or, or_true, not_true_eq_false, not_false_eq_true, ↓reduceIte, Nat.reduceEqDiff, show ¬ (1 : Int32) = 0 by decide, hw0, tz_118_0, tz_118_1, tz_118_3, tz_118_4, tz_118_7, tz_118_10, tz_118_13, tz_118_14, tz_118_17, tz_118_18, tz_118_21, tz_118_22, tz_118_23, tz_118_24, tz_118_25, tz_118_28, tz_118_29, tz_118_32, tz_118_33, tz_118_36, tz_118_37, tz_118_39, tz_118_41, tz_118_44, tz_118_45, tz_118_48, tz_118_49, tz_118_50, tz_118_53, tz_118_56, tz_118_57, tz_118_58, tz_118_61, tz_118_64, tz_118_66, c]
          rfl
        · have hb2 : ¬ tw_beg (fun j => tw_bt (sm j) w) t' := fun z => c z.1
          rw [if_neg hb2, if_pos e0]
          simp only [tk_128, tq_128_0, tq_128_1, tk_137, tq_137_0, tq_137_1, tw_va_s, tw_va_n, tw_K_s, tw_K_n, and_true, true_and, and_false, false_and, true_or, or_true, not_true_eq_false, not_false_eq_true, ↓reduceIte, Nat.reduceEqDiff, show ¬ (1 : Int32) = 0 by decide, hw0, tz_118_0, tz_118_1, tz_118_3, tz_118_4, tz_118_7, tz_118_10, tz_118_13, tz_118_14, tz_118_17, tz_118_18, tz_118_21, tz_118_22, tz_118_23, tz_118_24, tz_118_25, tz_118_28, tz_118_29, tz_118_32, tz_118_33, tz_118_36, tz_118_37, tz_118_39, tz_118_41, tz_118_44, tz_118_45, tz_118_48, tz_118_49, tz_118_50, tz_118_53, tz_118_56, tz_118_57, tz_118_58, tz_118_61, tz_118_64, tz_118_66, c, nI_1]
          exact ih (t' + 1) _ _ (by omega) (by omega)
      · have e0 : ¬ nI t' = 0 := nI_ne0 (by omega) (by omega)
        have e1 : nI t' - 1 = nI (t' - 1) := pk_sub (b := 1) (by omega)
        have hw1 : ∀ (d : Nat) (Q : Option Value → tw_G → tw_I → tw_Q → Prop), tw_E sc (d + 1) 96 0 [some (.ref 128), some (.int (nI (t' - 1))), some (.int w)] [] tw_g0 mi (tw_r0 t s i) Q = Q (some (.int (tw_bt (sm (t' - 1)) w))) tw_g0 mi (tw_r0 t s i) := fun d Q => by rw [tw_p_wire hC (by omega), if_pos (by omega)]
        rw [if_neg e0, e1]
        by_cases c1 : tw_bt (sm (t' - 1)) w = 1
        · by_cases c : tw_bt (sm t') w = 0
          · have hb2 : tw_beg (fun j => tw_bt (sm j) w) t' := ⟨c, Or.inr c1⟩
            rw [if_pos hb2]
            simp only [tk_128, tq_128_0, tq_128_1, tk_137, tq_137_0, tq_137_1, tw_va_s, tw_va_n, tw_K_s, tw_K_n, and_true, true_and, and_false, false_and, true_or, or_true, not_true_eq_false, not_false_eq_true, ↓reduceIte, Nat.reduceEqDiff, show ¬ (1 : Int32) = 0 by decide, hw0, hw1, tz_118_0, tz_118_1, tz_118_3, tz_118_4, tz_118_7, tz_118_10, tz_118_13, tz_118_14, tz_118_17, tz_118_18, tz_118_21, tz_118_22, tz_118_23, tz_118_24, tz_118_25, tz_118_28, tz_118_29, tz_118_32, tz_118_33, tz_118_36, tz_118_37, tz_118_39, tz_118_41, tz_118_44, tz_118_45, tz_118_48, tz_118_49, tz_118_50, tz_118_53, tz_118_56, tz_118_57, tz_118_58, tz_118_61, tz_118_64, tz_118_66, c, c1]
            rfl
          · have hb2 : ¬ tw_beg (fun j => tw_bt (sm j) w) t' := fun z => c z.1
            rw [if_neg hb2]
            simp only [tk_128, tq_128_0, tq_128_1, tk_137, tq_137_0, tq_137_1, tw_va_s, tw_va_n, tw_K_s, tw_K_n, and_true, true_and, and_false, false_and, true_or, or_true, not_true_eq_false, not_false_eq_true, ↓reduceIte, Nat.reduceEqDiff, show ¬ (1 : Int32) = 0 by decide, hw0, hw1, tz_118_0, tz_118_1, tz_118_3, tz_118_4, tz_118_7, tz_118_10, tz_118_13, tz_118_14, tz_118_17, tz_118_18, tz_118_21, tz_118_22, tz_118_23, tz_118_24, tz_118_25, tz_118_28, tz_118_29, tz_118_32, tz_118_33, tz_118_36, tz_118_37, tz_118_39, tz_118_41, tz_118_44, tz_118_45, tz_118_48, tz_118_49, tz_118_50, tz_118_53, tz_118_56, tz_118_57, tz_118_58, tz_118_61, tz_118_64, tz_118_66, c, c1, nI_1]
            exact ih (t' + 1) _ _ (by omega) (by omega)
        · have hb2 : ¬ tw_beg (fun j => tw_bt (sm j) w) t' := fun z => z.2.elim h0 c1
          rw [if_neg hb2]
          simp only [tk_128, tq_128_0, tq_128_1, tk_137, tq_137_0, tq_137_1, tw_va_s, tw_va_n, tw_K_s, tw_K_n, and_true, true_and, and_false, false_and, true_or, or_true, not_true_eq_false, not_false_eq_true, ↓reduceIte, Nat.reduceEqDiff, hw1, tz_118_0, tz_118_1, tz_118_3, tz_118_4, tz_118_7, tz_118_10, tz_118_13, tz_118_14, tz_118_17, tz_118_18, tz_118_21, tz_118_22, tz_118_23, tz_118_24, tz_118_25, tz_118_28, tz_118_29, tz_118_32, tz_118_33, tz_118_36, tz_118_37, tz_118_39, tz_118_41, tz_118_44, tz_118_45, tz_118_48, tz_118_49, tz_118_50, tz_118_53, tz_118_56, tz_118_57, tz_118_58, tz_118_61, tz_118_64, tz_118_66, c1, nI_1]
          exact ih (t' + 1) _ _ (by omega) (by omega)
    · rw [if_neg h]
      simp only [tz_118_0, tz_118_1, tz_118_3, tz_118_4, tz_118_7, tz_118_10, tz_118_13, tz_118_14, tz_118_17, tz_118_18, tz_118_21, tz_118_22, tz_118_23, tz_118_24, tz_118_25, tz_118_28, tz_118_29, tz_118_32, tz_118_33, tz_118_36, tz_118_37, tz_118_39, tz_118_41, tz_118_44, tz_118_45, tz_118_48, tz_118_49, tz_118_50, tz_118_53, tz_118_56, tz_118_57, tz_118_58, tz_118_61, tz_118_64, tz_118_66, tz_90_0, tz_90_1, tz_90_4, tk_137, tq_137_0, tq_137_1, tk_128, tq_128_0, tq_128_1, tw_va_s, tw_va_n, tw_K_s, tw_K_n, and_true, true_and, and_false, false_and, true_or, or_true, not_true_eq_false, not_false_eq_true, ↓reduceIte, Nat.reduceEqDiff, h1]
      rw [tw_le_t (by omega) (by omega)]
      rfl
set_option maxRecDepth 100000 in
theorem tw_p_fb (hC : tw_Ch mi T sm hd) {w : Int32} {t' : Nat} (h4 : t' ≤ 4000) : tw_E sc (d + 2) 118 0 [some (.ref 137), some (.int w), some (.int (nI t')), none, none] [] tw_g0 mi (tw_r0 t s i) Q = Q (some (.int (tw_oi (tw_FB (fun j => tw_bt (sm j) w) T t')))) tw_g0 mi (tw_r0 t s i) := by
  rw [tz_118_0, tz_118_1]
  exact tw_p_fbl hC T t' _ _ (by omega) h4
set_option maxRecDepth 100000 in
theorem tw_p_fr9 {w : Int32} {j : Nat} (x5 : Option Value) (hQ : Q none tw_g0 mi (tw_r0 t s i)) : tw_E sc (d + 4) 117 17 [some (.ref 137), some (.int w), some (.int (nI k)), some (.int (-9)), some (.int (nI j)), x5] [] tw_g0 mi (tw_r0 t s i) Q := by
  rw [tz_117_17]
  simp only [tz_117_0, tz_117_1, tz_117_4, tz_117_7, tz_117_8, tz_117_9, tz_117_10, tz_117_13, tz_117_14, tz_117_15, tz_117_19, tz_117_22, tz_117_25, tz_117_26, tz_117_28, tz_117_31, tz_117_32, tz_117_35, tz_117_38, tz_117_41, tz_117_42, tz_117_43, tz_117_44, tz_117_45, tz_117_48, tz_117_50, tz_117_52, tz_117_54, tz_117_57, tz_117_59, tz_117_62, tz_117_63, tz_117_64, tz_117_66, tz_117_67, tz_117_68, tz_117_71, tz_117_72, tz_117_75, tz_117_78, tw_va_s, tw_va_n, tw_K_s, tw_K_n, and_true, true_and, and_false, false_and, true_or, or_true, not_true_eq_false, not_false_eq_true, ↓reduceIte, Nat.reduceEqDiff]
  by_cases c : (4000 : Int32) ≤ nI j
  · rw [if_pos c]; exact hQ
  · rw [if_neg c]; exact hQ
set_option maxRecDepth 100000 in
theorem tw_p_frl2 {w : Int32} (hk : k ≤ 20) (hT : T ≤ 4000) : ∀ n t' j Z (mi : tw_I) (x5 : Option Value), T - t' ≤ n → j ≤ t' → t' ≤ 4000 → tw_Ch mi T sm hd → tw_CK mi Z →
    (∀ mi', tw_CK mi' (tw_FR (fun j => tw_bt (sm j) w) T k t' Z) → (∀ a, a ≠ 133 → a ≠ 134 → a ≠ 135 → a ≠ 136 → mi' a = mi a) → Q none tw_g0 mi' (tw_r0 t s i)) →
    tw_E sc (d + 4) 117 17 [some (.ref 137), some (.int w), some (.int (nI k)), some (.int (tw_oi (tw_FB (fun j => tw_bt (sm j) w) T t'))), some (.int (nI j)), x5] [] tw_g0 mi (tw_r0 t s i) Q := by
  intro n
  induction n with
  | zero =>
    intro t' j Z mi x5 hn hj h4 hC hZ hQ
    rw [tw_FR_eq, if_neg (by omega)] at hQ
    rw [tw_FB_eq, if_neg (by omega)]
    exact tw_p_fr9 x5 (hQ mi hZ (fun _ _ _ _ _ => rfl))
  | succ n ih =>
    intro t' j Z mi x5 hn hj h4 hC hZ hQ
    obtain ⟨hf1, hf2⟩ := tw_FB_FR (bt := fun j => tw_bt (sm j) w) (T := T) (k := k) (n + 1) t' Z hn
    cases hb : tw_FB (fun j => tw_bt (sm j) w) T t' with
    | none =>
      rw [hf1 hb] at hQ
      exact tw_p_fr9 x5 (hQ mi hZ (fun _ _ _ _ _ => rfl))
    | some b =>
      obtain ⟨b1, b2, b3, b4⟩ := hf2 b hb
      rw [b4, tw_FR_eq] at hQ
      have hz1 := hZ.2.1
      have hz4 := hZ.1
      have n9 : ¬ nI b = -9 := tw_ni9 (by omega)
      have c1 : ¬ (4000 : Int32) ≤ nI j := nI_ge (b := 4000) (by omega) (by omega)
      rw [tz_117_17]
      simp only [tz_117_0, tz_117_1, tz_117_4, tz_117_7, tz_117_8, tz_117_9, tz_117_10, tz_117_13, tz_117_14, tz_117_15, tz_117_19, tz_117_22, tz_117_25, tz_117_26, tz_117_28, tz_117_31, tz_117_32, tz_117_35, tz_117_38, tz_117_41, tz_117_42, tz_117_43, tz_117_44, tz_117_45, tz_117_48, tz_117_50, tz_117_52, tz_117_54, tz_117_57, tz_117_59, tz_117_62, tz_117_63, tz_117_64, tz_117_66, tz_117_67, tz_117_68, tz_117_71, tz_117_72, tz_117_75, tz_117_78, tk_137, tq_137_0, tq_137_1, tw_va_s, tw_va_n, tw_K_s, tw_K_n, and_true, true_and, and_false, false_and, true_or, or_true, not_true_eq_false, not_false_eq_true, ↓reduceIte, Nat.reduceEqDiff, tw_oi_s]
      rw [if_neg c1, if_neg n9]
      simp only [tz_117_0, tz_117_1, tz_117_4, tz_117_7, tz_117_8, tz_117_9, tz_117_10, tz_117_13, tz_117_14, tz_117_15, tz_117_19, tz_117_22, tz_117_25, tz_117_26, tz_117_28, tz_117_31, tz_117_32, tz_117_35, tz_117_38, tz_117_41, tz_117_42, tz_117_43, tz_117_44, tz_117_45, tz_117_48, tz_117_50, tz_117_52, tz_117_54, tz_117_57, tz_117_59, tz_117_62, tz_117_63, tz_117_64, tz_117_66, tz_117_67, tz_117_68, tz_117_71, tz_117_72, tz_117_75, tz_117_78, tz_111_0, tz_111_1, tz_111_4, tz_111_7, tz_111_10, tz_111_11, tz_111_14, tz_111_15, tk_133, tq_133_0, tq_133_1, tq_133_2, tw_va_s, tw_va_n, tw_K_s, tw_K_n, and_true, true_and, and_false, false_and, true_or, or_true, not_true_eq_false, not_false_eq_true, ↓reduceIte, Nat.reduceEqDiff, hz1]
      by_cases h5 : Z.1 < 400
      · have c2 : nI Z.1 < 400 := nI_lt (b := 400) h5 (by omega)
        rw [if_pos c2]
        rw [if_pos ⟨b2, h5⟩, if_pos b3] at hQ
        refine ⟨tk_137, ?_⟩
        refine tw_p_frm hC hZ hk (by omega) (fun mi' w1 w2 => ?_)
        cases hr : (tw_frm (fun j => tw_bt (sm j) w) T k b Z).1 with
        | none =>
          simp only [hr] at hQ
          simp only [tz_117_0, tz_117_1, tz_117_4, tz_117_7, tz_117_8, tz_117_9, tz_117_10, tz_117_13, tz_117_14, tz_117_15, tz_117_19, tz_117_22, tz_117_25, tz_117_26, tz_117_28, tz_117_31, tz_117_32, tz_117_35, tz_117_38, tz_117_41, tz_117_42, tz_117_43, tz_117_44, tz_117_45, tz_117_48, tz_117_50, tz_117_52, tz_117_54, tz_117_57, tz_117_59, tz_117_62, tz_117_63, tz_117_64, tz_117_66, tz_117_67, tz_117_68, tz_117_71, tz_117_72, tz_117_75, tz_117_78, tw_va_s, tw_va_n, tw_K_s, tw_K_n, and_true, true_and, and_false, false_and, true_or, or_true, not_true_eq_false, not_false_eq_true, ↓reduceIte, Nat.reduceEqDiff, tw_oi_n, nI_1]
          exact tw_p_fr9 _ (hQ mi' w1 w2)
        | some l =>
          obtain ⟨l1, l2⟩ := tw_frm_l hr
          simp only [hr] at hQ
          have nl : ¬ nI l = -9 := tw_ni9 (by omega)
          simp only [tz_117_0, tz_117_1, tz_117_4, tz_117_7, tz_117_8, tz_117_9, tz_117_10, tz_117_13, tz_117_14, tz_117_15, tz_117_19, tz_117_22, tz_117_25, tz_117_26, tz_117_28, tz_117_31, tz_117_32, tz_117_35, tz_117_38, tz_117_41, tz_117_42, tz_117_43, tz_117_44, tz_117_45, tz_117_48, tz_117_50, tz_117_52, tz_117_54, tz_117_57, tz_117_59, tz_117_62, tz_117_63, tz_117_64, tz_117_66, tz_117_67, tz_117_68, tz_117_71, tz_117_72, tz_117_75, tz_117_78, tk_137, tq_137_0, tq_137_1, tw_va_s, tw_va_n, tw_K_s, tw_K_n, and_true, true_and, and_false, false_and, true_or, or_true, not_true_eq_false, not_false_eq_true, ↓reduceIte, Nat.reduceEqDiff, tw_oi_s, nI_1, nl, tw_p_fb (tw_Ch_fr2 hC w2) (show l + 1 ≤ 4000 by omega)]
          exact ih (l + 1) (j + 1) _ mi' _ (by omega) (by omega) (by omega) (tw_Ch_fr2 hC w2) w1 (fun mi2 r1 r2 => hQ mi2 r1 (fun a g1 g2 g3 g4 => by rw [r2 a g1 g2 g3 g4, w2 a g1 g2 g3 g4]))
      · have c2 : ¬ nI Z.1 < 400 := nI_nlt (b := 400) (by omega) (by omega)
        rw [if_neg (fun z => h5 z.2)] at hQ
        rw [if_neg c2, if_pos (by decide)]
        exact hQ mi hZ (fun _ _ _ _ _ => rfl)
set_option maxRecDepth 100000 in
theorem tw_p_frames (hC : tw_Ch mi T sm hd) (hZ : tw_CK mi Z) {S : tw_Hs} (hS : S.1 = T ∧ S.2.1 = sm) (w k : Int32)
    (hQ : ∀ mi', tw_CK mi' (tw_frq S Z w k).1 → (∀ a, a ≠ 133 → a ≠ 134 → a ≠ 135 → a ≠ 136 → mi' a = mi a) → Q (some (.int (tw_frq S Z w k).2)) tw_g0 mi' (tw_r0 t s i)) :
    tw_E sc (d + 5) 18 0 [some (.ref 0), some (.int w), some (.int k)] [] tw_g0 mi (tw_r0 t s i) Q := by
  have hT := hC.1
  obtain ⟨hS1, hS2⟩ := hS
  have hq0 : ∀ r, tw_frq S Z w k = (Z, r) → Q (some (.int r)) tw_g0 mi (tw_r0 t s i) := by
    intro r e
    rw [e] at hQ
    exact hQ _ hZ (fun _ _ _ _ _ => rfl)
  by_cases h1 : 0 ≤ w ∧ w ≤ 15
  · have n1 : ¬ w < 0 := Int32.not_lt.mpr h1.1
    have n2 : ¬ (16 : Int32) ≤ w := fun q => (tw_w15 _).mp q h1.2
    simp only [tz_18_0, tz_18_1, tz_18_4, tz_18_7, tz_18_8, tz_18_9, tz_18_10, tz_18_13, tz_18_16, tz_18_18, tz_18_19, tz_18_20, tz_18_23, tz_18_24, tz_18_25, tz_18_28, tz_18_29, tz_18_32, tz_18_35, tz_32_0, tz_32_1, tz_32_4, tz_32_5, tz_32_7, tz_32_10, tz_32_11, tz_32_14, tz_32_15, tk_0, tq_0_0, tq_0_1, tq_0_2, tq_0_3, tq_0_4, tq_0_5, tq_0_6, tq_t, tq_s, tw_va_s, tw_va_n, tw_K_s, tw_K_n, and_true, true_and, and_false, false_and, true_or, or_true, not_true_eq_false, not_false_eq_true, ↓reduceIte, Nat.reduceEqDiff, n1, n2, show ¬ (1 : Int32) = 0 by decide]
    by_cases h2 : 1 ≤ k ∧ k ≤ 20
    · have e : tw_frq S Z w k = (tw_FR (fun j => tw_bt (S.2.1 j) w) S.1 k.toNatClampNeg 0 (0, Z.2), nI (tw_FR (fun j => tw_bt (S.2.1 j) w) S.1 k.toNatClampNeg 0 (0, Z.2)).1) := by unfold tw_frq; rw [if_pos h1, if_pos h2]
      rw [e, hS1, hS2] at hQ
      obtain ⟨q, k0, k1, rfl⟩ := tw_rng (lo := 1) (hi := 20) (by omega) (by omega) h2.1 h2.2
      rw [nI_clamp (by omega)] at hQ
      have n3 : ¬ nI q < 1 := Int32.not_lt.mpr h2.1
      have n4 : ¬ (20 : Int32) < nI q := Int32.not_lt.mpr h2.2
      have hC2 : tw_Ch (tw_st mi 133 (tw_st (mi 133) 3 0)) T sm hd := tw_Ch_fr2 hC (fun a a1 a2 a3 a4 => tw_st_n _ _ a1)
      have hZ2 : tw_CK (tw_st mi 133 (tw_st (mi 133) 3 0)) (0, Z.2) := ⟨by show 0 ≤ 400; omega, by rw [tw_st_s, tw_st_s]; rfl, fun j hj => absurd hj (Nat.not_lt_zero j)⟩
      simp only [tz_18_0, tz_18_1, tz_18_4, tz_18_7, tz_18_8, tz_18_9, tz_18_10, tz_18_13, tz_18_16, tz_18_18, tz_18_19, tz_18_20, tz_18_23, tz_18_24, tz_18_25, tz_18_28, tz_18_29, tz_18_32, tz_18_35, tz_33_0, tz_33_1, tz_33_2, tz_33_5, tz_33_6, tz_33_8, tz_33_11, tz_33_12, tz_33_15, tz_33_16, tz_117_0, tz_117_1, tz_117_4, tz_117_7, tz_117_8, tz_117_9, tz_117_10, tz_117_13, tz_117_14, tz_117_15, tz_117_19, tz_117_22, tz_117_25, tz_117_26, tz_117_28, tz_117_31, tz_117_32, tz_117_35, tz_117_38, tz_117_41, tz_117_42, tz_117_43, tz_117_44, tz_117_45, tz_117_48, tz_117_50, tz_117_52, tz_117_54, tz_117_57, tz_117_59, tz_117_62, tz_117_63, tz_117_64, tz_117_66, tz_117_67, tz_117_68, tz_117_71, tz_117_72, tz_117_75, tz_117_78, tz_109_0, tz_109_1, tz_109_2, tz_109_5, tk_0, tq_0_0, tq_0_1, tq_0_2, tq_0_3, tq_0_4, tq_0_5, tq_0_6, tq_t, tq_s, tk_137, tq_137_0, tq_137_1, tk_133, tq_133_0, tq_133_1, tq_133_2, tw_va_s, tw_va_n, tw_K_s, tw_K_n, and_true, true_and, and_false, false_and, true_or, or_true, not_true_eq_false, not_false_eq_true, ↓reduceIte, Nat.reduceEqDiff, n3, n4, show ¬ (1 : Int32) = 0 by decide]
      refine Eq.mpr (tw_p_fb (t' := 0) hC2 (by omega)) ?_
      simp only [tz_117_0, tz_117_1, tz_117_4, tz_117_7, tz_117_8, tz_117_9, tz_117_10, tz_117_13, tz_117_14, tz_117_15, tz_117_19, tz_117_22, tz_117_25, tz_117_26, tz_117_28, tz_117_31, tz_117_32, tz_117_35, tz_117_38, tz_117_41, tz_117_42, tz_117_43, tz_117_44, tz_117_45, tz_117_48, tz_117_50, tz_117_52, tz_117_54, tz_117_57, tz_117_59, tz_117_62, tz_117_63, tz_117_64, tz_117_66, tz_117_67, tz_117_68, tz_117_71, tz_117_72, tz_117_75, tz_117_78, tk_137, tq_137_0, tq_137_1, tw_va_s, tw_va_n, tw_K_s, tw_K_n, and_true, true_and, and_false, false_and, true_or, or_true, not_true_eq_false, not_false_eq_true, ↓reduceIte, Nat.reduceEqDiff]
      refine tw_p_frl2 (by omega) hT T 0 0 (0, Z.2) _ none (by omega) (by omega) (by omega) hC2 hZ2 (fun mi' w1 w2 => ?_)
      simp only [tz_18_0, tz_18_1, tz_18_4, tz_18_7, tz_18_8, tz_18_9, tz_18_10, tz_18_13, tz_18_16, tz_18_18, tz_18_19, tz_18_20, tz_18_23, tz_18_24, tz_18_25, tz_18_28, tz_18_29, tz_18_32, tz_18_35, tz_110_0, tz_110_1, tz_110_4, tk_0, tq_0_0, tq_0_1, tq_0_2, tq_0_3, tq_0_4, tq_0_5, tq_0_6, tq_t, tq_s, tk_133, tq_133_0, tq_133_1, tq_133_2, tw_va_s, tw_va_n, tw_K_s, tw_K_n, and_true, true_and, and_false, false_and, true_or, or_true, not_true_eq_false, not_false_eq_true, ↓reduceIte, Nat.reduceEqDiff, w1.2.1]
      exact hQ mi' w1 (fun a a1 a2 a3 a4 => by rw [w2 a a1 a2 a3 a4, tw_st_n _ _ a1])
    · have hq := hq0 (-2) (by unfold tw_frq; rw [if_pos h1, if_neg h2])
      simp only [tz_18_0, tz_18_1, tz_18_4, tz_18_7, tz_18_8, tz_18_9, tz_18_10, tz_18_13, tz_18_16, tz_18_18, tz_18_19, tz_18_20, tz_18_23, tz_18_24, tz_18_25, tz_18_28, tz_18_29, tz_18_32, tz_18_35, tz_33_0, tz_33_1, tz_33_2, tz_33_5, tz_33_6, tz_33_8, tz_33_11, tz_33_12, tz_33_15, tz_33_16, tk_0, tq_0_0, tq_0_1, tq_0_2, tq_0_3, tq_0_4, tq_0_5, tq_0_6, tq_t, tq_s, tw_va_s, tw_va_n, tw_K_s, tw_K_n, and_true, true_and, and_false, false_and, true_or, or_true, not_true_eq_false, not_false_eq_true, ↓reduceIte, Nat.reduceEqDiff]
      by_cases q1 : k < 1
      · simp only [q1, ↓reduceIte]; exact hq
      by_cases q2 : (20 : Int32) < k
      · simp only [q1, q2, ↓reduceIte]; exact hq
      exact absurd ⟨Int32.not_lt.mp q1, Int32.not_lt.mp q2⟩ h2
  · have hq := hq0 (-1) (by unfold tw_frq; rw [if_neg h1])
    simp only [tz_18_0, tz_18_1, tz_18_4, tz_18_7, tz_18_8, tz_18_9, tz_18_10, tz_18_13, tz_18_16, tz_18_18, tz_18_19, tz_18_20, tz_18_23, tz_18_24, tz_18_25, tz_18_28, tz_18_29, tz_18_32, tz_18_35, tz_32_0, tz_32_1, tz_32_4, tz_32_5, tz_32_7, tz_32_10, tz_32_11, tz_32_14, tz_32_15, tk_0, tq_0_0, tq_0_1, tq_0_2, tq_0_3, tq_0_4, tq_0_5, tq_0_6, tq_t, tq_s, tw_va_s, tw_va_n, tw_K_s, tw_K_n, and_true, true_and, and_false, false_and, true_or, or_true, not_true_eq_false, not_false_eq_true, ↓reduceIte, Nat.reduceEqDiff]
    by_cases q1 : w < 0
    · simp only [q1, ↓reduceIte]; exact hq
    by_cases q2 : (16 : Int32) ≤ w
    · simp only [q1, q2, ↓reduceIte]; exact hq
    exact absurd ⟨Int32.not_lt.mp q1, Decidable.not_not.mp (fun z => q2 ((tw_w15 _).mpr z))⟩ h1
end tw_frames
