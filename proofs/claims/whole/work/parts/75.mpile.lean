/-! the reference's pile -/
/-- what waits (what, first, low, high), the last one ahead -/
abbrev tx_K : Type := List (Nat × Int32 × Int32 × Int32)
def tx_dp : tx_K → Nat
  | [] => 0
  | q :: K => (if q.1 < 3 then 1 else 0) + tx_dp K
def tx_KM (mi : tw_I) : tx_K → Prop
  | [] => True
  | q :: K => mi 160 K.length = nI q.1 ∧ mi 161 K.length = q.2.1 ∧ mi 162 K.length = q.2.2.1 ∧ mi 163 K.length = q.2.2.2 ∧ q.1 ≤ 5 ∧ tx_KM mi K
/-- what the reading leaves as it was -/
def tx_MF (mi0 mi : tw_I) : Prop := (∀ a, a ≠ 139 → (a < 146 ∨ 150 < a) → (a < 160 ∨ 163 < a) → mi a = mi0 a) ∧ ∀ z, z < 29 → z ≠ 11 → mi 139 z = mi0 139 z
/-- the reference's reader at s, with the pile K -/
def tx_MR (mi0 mi : tw_I) (n : Nat) (tp : Nat → Nat) (W : Int32) (K : tx_K) (s : tx_S) : Prop :=
  tx_MF mi0 mi ∧ tw_Mt mi n tp ∧ tx_MP mi n tp s.1 ∧ mi 139 39 = W ∧ mi 139 40 = s.2.2.2 ∧ mi 139 11 = nI s.2.1 ∧ (∀ k, k < s.2.1 → mi 146 k = nI (s.2.2.1 k).1 ∧ mi 147 k = (s.2.2.1 k).2.1 ∧ mi 148 k = (s.2.2.1 k).2.2.1 ∧ mi 149 k = (s.2.2.1 k).2.2.2.1 ∧ mi 150 k = (s.2.2.1 k).2.2.2.2) ∧ mi 139 33 = nI K.length ∧ mi 139 38 = nI (tx_dp K) ∧ tx_KM mi K
def tx_nt (K : tx_K) (w : Nat) : Prop := ∀ q K', K = q :: K' → ¬ q.1 = w
/-- the state behind a new node -/
def tx_nx (kd : Nat) (a b lo hi : Int32) (s : tx_S) : tx_S := (s.1, s.2.1 + 1, tw_st s.2.2.1 s.2.1 (kd, a, b, lo, hi), s.2.2.2)
set_option maxRecDepth 100000 in
theorem tx_mk_nx (kd : Nat) (a b lo hi : Int32) (s : tx_S) : tx_mk kd a b lo hi s = .inr (s.2.1, tx_nx kd a b lo hi s) := rfl
set_option maxRecDepth 100000 in
theorem tx_dp_le (K : tx_K) : tx_dp K ≤ K.length := by
  induction K with
  | nil => exact Nat.le_refl _
  | cons q K ih =>
    simp only [tx_dp, List.length_cons]
    split <;> omega
set_option maxRecDepth 100000 in
theorem tx_KM_of {mi mi' : tw_I} (h : ∀ a, 160 ≤ a → a ≤ 163 → mi' a = mi a) : ∀ K, tx_KM mi K → tx_KM mi' K := by
  intro K
  induction K with
  | nil => intro _; trivial
  | cons q K ih =>
    intro hK
    obtain ⟨h1, h2, h3, h4, h5, h6⟩ := hK
    exact ⟨by rw [h 160 (by omega) (by omega)]; exact h1, by rw [h 161 (by omega) (by omega)]; exact h2, by rw [h 162 (by omega) (by omega)]; exact h3, by rw [h 163 (by omega) (by omega)]; exact h4, h5, ih h6⟩
set_option maxRecDepth 100000 in
/-- only a place above the pile has changed -/
theorem tx_KM_up {mi mi' : tw_I} (L : Nat) (h : ∀ a, 160 ≤ a → a ≤ 163 → ∀ j, j < L → mi' a j = mi a j) : ∀ K : tx_K, K.length ≤ L → tx_KM mi K → tx_KM mi' K := by
  intro K
  induction K with
  | nil => intro _ _; trivial
  | cons q K ih =>
    intro hL hK
    have hL2 : K.length < L := hL
    obtain ⟨h1, h2, h3, h4, h5, h6⟩ := hK
    exact ⟨by rw [h 160 (by omega) (by omega) _ hL2]; exact h1, by rw [h 161 (by omega) (by omega) _ hL2]; exact h2, by rw [h 162 (by omega) (by omega) _ hL2]; exact h3, by rw [h 163 (by omega) (by omega) _ hL2]; exact h4, h5, ih (by omega) h6⟩
section tw_mpile
variable {sc : Nat × (Nat → Int32)} {d t s' i n : Nat} {mi mi0 : tw_I} {Q : Option Value → tw_G → tw_I → tw_Q → Prop} {tp : Nat → Nat} {s : tx_S} {W : Int32} {K : tx_K} {q : Nat × Int32 × Int32 × Int32}
set_option maxRecDepth 100000 in
theorem tx_so_le (c : Nat) : tx_so c ≤ 4 := by
  unfold tx_so
  repeat' split
  all_goals omega
set_option maxRecDepth 100000 in
theorem tx_q_sign (hb : ∀ j, j < n → tp j < 256) (hM : tx_MR mi0 mi n tp W K s) {c : Nat} (h3 : tx_so c = 3) (hc : c < 256) {cI : Int32} (hI : cI = nI c) : tw_E sc d 132 0 [some (.ref 139), some (.int cI)] [] tw_g0 mi (tw_r0 t s' i) Q = Q (some (.int (if tx_to n tp s.1 = c then 1 else 0))) tw_g0 mi (tw_r0 t s' i) := by
  obtain ⟨-, -, ⟨m1, m2, m3, m4, m5, m6⟩, -⟩ := hM
  have hl := tx_to_lt hb s.1
  have hs := tx_so_le (tx_to n tp s.1)
  subst hI
  by_cases h : tx_so (tx_to n tp s.1) = 3
  · have m7 := m6 h
    simp only [tz_132_0, tz_132_1, tz_132_4, tz_132_5, tz_132_8, tz_132_9, tz_132_12, tz_132_13, tz_132_16, tz_132_17, tz_132_20, tz_132_21, tk_139, tq_139_1, tq_139_6, tq_139_7, tq_139_8, tq_139_9, tq_139_10, tq_139_12, tq_139_13, tq_139_14, tq_139_15, tq_139_16, tq_139_17, tq_139_18, tq_139_19, tq_139_21, tq_139_22, tq_139_24, tq_139_26, tq_139_27, tq_139_28, tq_139_34, tq_139_35, tq_139_36, tq_139_37, tw_va_s, tw_va_n, tw_K_s, tw_K_n, and_true, true_and, and_false, false_and, true_or, or_true, not_true_eq_false, not_false_eq_true, ↓reduceIte, Nat.reduceEqDiff, m3, m7, tl3]
    rw [tw_ne_f h]
    by_cases e : tx_to n tp s.1 = c
    · rw [tw_ne_f e, if_pos e]
    · rw [tw_ne_t e (by omega) (by omega), if_neg e]
  · have e : ¬ tx_to n tp s.1 = c := fun z => h (by rw [z]; exact h3)
    simp only [tz_132_0, tz_132_1, tz_132_4, tz_132_5, tz_132_8, tz_132_9, tz_132_12, tz_132_13, tz_132_16, tz_132_17, tz_132_20, tz_132_21, tk_139, tq_139_1, tq_139_6, tq_139_7, tq_139_8, tq_139_9, tq_139_10, tq_139_12, tq_139_13, tq_139_14, tq_139_15, tq_139_16, tq_139_17, tq_139_18, tq_139_19, tq_139_21, tq_139_22, tq_139_24, tq_139_26, tq_139_27, tq_139_28, tq_139_34, tq_139_35, tq_139_36, tq_139_37, tw_va_s, tw_va_n, tw_K_s, tw_K_n, and_true, true_and, and_false, false_and, true_or, or_true, not_true_eq_false, not_false_eq_true, ↓reduceIte, Nat.reduceEqDiff, m3, tl3]
    rw [tw_ne_t h (by omega) (by omega), if_neg e]
set_option maxRecDepth 100000 in
theorem tx_q_topF (hM : tx_MR mi0 mi n tp W K s) (hL : K.length ≤ 60) {w : Nat} (hw : w ≤ 5) (hn : tx_nt K w) {wI : Int32} (hI : wI = nI w) : tw_E sc d 135 0 [some (.ref 139), some (.int wI)] [] tw_g0 mi (tw_r0 t s' i) Q = Q (some (.int 0)) tw_g0 mi (tw_r0 t s' i) := by
  obtain ⟨-, -, -, -, -, -, -, h33, -, hK⟩ := hM
  subst hI
  cases K with
  | nil =>
    have c : nI ([] : tx_K).length ≤ (0 : Int32) := by decide
    simp only [tz_135_0, tz_135_1, tz_135_4, tz_135_7, tz_135_8, tz_135_11, tz_135_12, tz_135_15, tz_135_16, tz_135_17, tz_135_18, tz_135_19, tz_135_22, tz_135_23, tz_135_26, tz_135_27, tk_139, tq_139_1, tq_139_6, tq_139_7, tq_139_8, tq_139_9, tq_139_10, tq_139_12, tq_139_13, tq_139_14, tq_139_15, tq_139_16, tq_139_17, tq_139_18, tq_139_19, tq_139_21, tq_139_22, tq_139_24, tq_139_26, tq_139_27, tq_139_28, tq_139_34, tq_139_35, tq_139_36, tq_139_37, tw_va_s, tw_va_n, tw_K_s, tw_K_n, and_true, true_and, and_false, false_and, true_or, or_true, not_true_eq_false, not_false_eq_true, ↓reduceIte, Nat.reduceEqDiff, h33, c]
  | cons q K =>
    have hL2 : K.length + 1 ≤ 60 := hL
    have hq := hn q K rfl
    obtain ⟨h1, h2, h3, h4, h5, h6⟩ := hK
    have c : ¬ nI (q :: K).length ≤ (0 : Int32) := nI_ge (a := 0) (by show 0 < K.length + 1; omega) (by show K.length + 1 < _; omega)
    have e : nI (q :: K).length - 1 = nI K.length := nI_pred _
    simp only [tz_135_0, tz_135_1, tz_135_4, tz_135_7, tz_135_8, tz_135_11, tz_135_12, tz_135_15, tz_135_16, tz_135_17, tz_135_18, tz_135_19, tz_135_22, tz_135_23, tz_135_26, tz_135_27, tk_139, tq_139_1, tq_139_6, tq_139_7, tq_139_8, tq_139_9, tq_139_10, tq_139_12, tq_139_13, tq_139_14, tq_139_15, tq_139_16, tq_139_17, tq_139_18, tq_139_19, tq_139_21, tq_139_22, tq_139_24, tq_139_26, tq_139_27, tq_139_28, tq_139_34, tq_139_35, tq_139_36, tq_139_37, tk_160, tj_160, tw_va_s, tw_va_n, tw_K_s, tw_K_n, and_true, true_and, and_false, false_and, true_or, or_true, not_true_eq_false, not_false_eq_true, ↓reduceIte, Nat.reduceEqDiff, h33, c, e, nI_clamp (show K.length < 2 ^ 31 by omega), vp_in_nI (show K.length < 64 by omega) (by omega), h1]
    rw [tw_ne_t hq (by omega) (by omega)]
set_option maxRecDepth 100000 in
theorem tx_q_topT (hM : tx_MR mi0 mi n tp W (q :: K) s) (hL : K.length < 60) {wI : Int32} (hI : wI = nI q.1) : tw_E sc d 135 0 [some (.ref 139), some (.int wI)] [] tw_g0 mi (tw_r0 t s' i) Q = Q (some (.int 1)) tw_g0 mi (tw_r0 t s' i) := by
  obtain ⟨-, -, -, -, -, -, -, h33, -, h1, h2, h3, h4, h5, h6⟩ := hM
  subst hI
  have c : ¬ nI (q :: K).length ≤ (0 : Int32) := nI_ge (a := 0) (by show 0 < K.length + 1; omega) (by show K.length + 1 < _; omega)
  have e : nI (q :: K).length - 1 = nI K.length := nI_pred _
  simp only [tz_135_0, tz_135_1, tz_135_4, tz_135_7, tz_135_8, tz_135_11, tz_135_12, tz_135_15, tz_135_16, tz_135_17, tz_135_18, tz_135_19, tz_135_22, tz_135_23, tz_135_26, tz_135_27, tk_139, tq_139_1, tq_139_6, tq_139_7, tq_139_8, tq_139_9, tq_139_10, tq_139_12, tq_139_13, tq_139_14, tq_139_15, tq_139_16, tq_139_17, tq_139_18, tq_139_19, tq_139_21, tq_139_22, tq_139_24, tq_139_26, tq_139_27, tq_139_28, tq_139_34, tq_139_35, tq_139_36, tq_139_37, tk_160, tj_160, tw_va_s, tw_va_n, tw_K_s, tw_K_n, and_true, true_and, and_false, false_and, true_or, or_true, not_true_eq_false, not_false_eq_true, ↓reduceIte, Nat.reduceEqDiff, h33, c, e, nI_clamp (show K.length < 2 ^ 31 by omega), vp_in_nI (show K.length < 64 by omega) (by omega), h1]
set_option maxRecDepth 100000 in
theorem tx_MR_pop (hM : tx_MR mi0 mi n tp W (q :: K) s) (hq : ¬ q.1 < 3) : tx_MR mi0 (tw_st mi 139 (tw_st (mi 139) 33 (nI K.length))) n tp W K s := by
  obtain ⟨⟨f1, f2⟩, ⟨t1, t2, t3⟩, ⟨m1, m2, m3, m4, m5, m6⟩, a1, a2, a3, a4, a5, a6, h1, h2, h3, h4, h5, h6⟩ := hM
  have e : ∀ z, z ≠ 33 → tw_st mi 139 (tw_st (mi 139) 33 (nI K.length)) 139 z = mi 139 z := fun z hz => by rw [tw_st_s, tw_st_n _ _ hz]
  have fr : ∀ a, a ≠ 139 → tw_st mi 139 (tw_st (mi 139) 33 (nI K.length)) a = mi a := fun a h => tw_st_n _ _ h
  refine ⟨⟨fun a b1 b2 b3 => by rw [fr a b1]; exact f1 a b1 b2 b3, fun z z1 z2 => by rw [e z (by omega)]; exact f2 z z1 z2⟩, ⟨t1, by rw [e 2 (by decide)]; exact t2, by rw [fr 140 (by decide)]; exact t3⟩, ⟨by rw [e 31 (by decide)]; exact m1, by rw [e 29 (by decide)]; exact m2, by rw [e 30 (by decide)]; exact m3, by rw [e 32 (by decide)]; exact m4, by rw [e 32 (by decide)]; exact m5, by rw [e 32 (by decide)]; exact m6⟩, by rw [e 39 (by decide)]; exact a1, by rw [e 40 (by decide)]; exact a2, by rw [e 11 (by decide)]; exact a3, ?_, by rw [tw_st_s, tw_st_s], ?_, tx_KM_of (fun a b1 b2 => fr a (by omega)) K h6⟩
  · rw [fr 146 (by decide), fr 147 (by decide), fr 148 (by decide), fr 149 (by decide), fr 150 (by decide)]
    exact a4
  · rw [e 38 (by decide), a6]
    simp only [tx_dp, hq, ↓reduceIte, Nat.zero_add]
set_option maxRecDepth 100000 in
theorem tx_MR_pop2 (hM : tx_MR mi0 mi n tp W (q :: K) s) (hq : q.1 < 3) : tx_MR mi0 (tw_st mi 139 (tw_st (tw_st (mi 139) 33 (nI K.length)) 38 (nI (tx_dp K)))) n tp W K s := by
  obtain ⟨⟨f1, f2⟩, ⟨t1, t2, t3⟩, ⟨m1, m2, m3, m4, m5, m6⟩, a1, a2, a3, a4, a5, a6, h1, h2, h3, h4, h5, h6⟩ := hM
  have e : ∀ z, z ≠ 33 → z ≠ 38 → tw_st mi 139 (tw_st (tw_st (mi 139) 33 (nI K.length)) 38 (nI (tx_dp K))) 139 z = mi 139 z := fun z hz hz2 => by rw [tw_st_s, tw_st_n _ _ hz2, tw_st_n _ _ hz]
  have fr : ∀ a, a ≠ 139 → tw_st mi 139 (tw_st (tw_st (mi 139) 33 (nI K.length)) 38 (nI (tx_dp K))) a = mi a := fun a h => tw_st_n _ _ h
  refine ⟨⟨fun a b1 b2 b3 => by rw [fr a b1]; exact f1 a b1 b2 b3, fun z z1 z2 => by rw [e z (by omega) (by omega)]; exact f2 z z1 z2⟩, ⟨t1, by rw [e 2 (by decide) (by decide)]; exact t2, by rw [fr 140 (by decide)]; exact t3⟩, ⟨by rw [e 31 (by decide) (by decide)]; exact m1, by rw [e 29 (by decide) (by decide)]; exact m2, by rw [e 30 (by decide) (by decide)]; exact m3, by rw [e 32 (by decide) (by decide)]; exact m4, by rw [e 32 (by decide) (by decide)]; exact m5, by rw [e 32 (by decide) (by decide)]; exact m6⟩, by rw [e 39 (by decide) (by decide)]; exact a1, by rw [e 40 (by decide) (by decide)]; exact a2, by rw [e 11 (by decide) (by decide)]; exact a3, ?_, ?_, ?_, tx_KM_of (fun a b1 b2 => fr a (by omega)) K h6⟩
  · rw [fr 146 (by decide), fr 147 (by decide), fr 148 (by decide), fr 149 (by decide), fr 150 (by decide)]
    exact a4
  · rw [tw_st_s, tw_st_n _ _ (by decide), tw_st_s]
  · rw [tw_st_s, tw_st_s]
set_option maxRecDepth 100000 in
/-- the next token -/
theorem tx_q_go (hb : ∀ j, j < n → tp j < 256) (hM : tx_MR mi0 mi n tp W K s) (hs : s.1 ≤ n) (hQ : ∀ mi', tx_MR mi0 mi' n tp W K (tx_ad n tp s) → Q none tw_g0 mi' (tw_r0 t s' i)) : tw_E sc (d + 2) 131 0 [some (.ref 139)] [] tw_g0 mi (tw_r0 t s' i) Q := by
  obtain ⟨⟨f1, f2⟩, ⟨t1, t2, t3⟩, hP, a1, a2, a3, a4, a5, a6, hK⟩ := hM
  refine tw_q_next hb (p := tx_en n tp s.1) (tx_en_le (tp := tp) hs).2.1 ⟨t1, t2, t3⟩ hP.2.1 (fun mi' w1 w2 w3 => hQ mi' ⟨⟨fun a b1 b2 b3 => by rw [w2 a b1]; exact f1 a b1 b2 b3, fun z z1 z2 => by rw [w3 z (by omega) (by omega) (by omega) (by omega)]; exact f2 z z1 z2⟩, ⟨t1, by rw [w3 2 (by decide) (by decide) (by decide) (by decide)]; exact t2, by rw [w2 140 (by decide)]; exact t3⟩, w1, by rw [w3 39 (by decide) (by decide) (by decide) (by decide)]; exact a1, by rw [w3 40 (by decide) (by decide) (by decide) (by decide)]; exact a2, by rw [w3 11 (by decide) (by decide) (by decide) (by decide)]; exact a3, ?_, by rw [w3 33 (by decide) (by decide) (by decide) (by decide)]; exact a5, by rw [w3 38 (by decide) (by decide) (by decide) (by decide)]; exact a6, tx_KM_of (fun a b1 b2 => w2 a (by omega)) K hK⟩)
  rw [w2 146 (by decide), w2 147 (by decide), w2 148 (by decide), w2 149 (by decide), w2 150 (by decide)]
  exact a4
end tw_mpile
