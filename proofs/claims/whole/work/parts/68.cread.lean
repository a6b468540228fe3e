/-! the class reads: refuse, make, goes on -/
/-- the class's reader at s, of trigger u; mi0: what there was -/
def tx_RC (mi0 mi : tw_I) (n : Nat) (tp : Nat → Nat) (u : Nat) (s : tx_S) : Prop :=
  s.2.1 ≤ 60 ∧ tw_CT mi n tp ∧ tx_CP mi n tp s.1 ∧ mi 127 6 = -9 ∧ mi 127 7 = s.2.2.2 ∧ mi u 1 = nI s.2.1 ∧ (∀ k, k < s.2.1 → mi (u + 2 + k) 0 = nI (s.2.2.1 k).1 ∧ mi (u + 2 + k) 1 = (s.2.2.1 k).2.1 ∧ mi (u + 2 + k) 2 = (s.2.2.1 k).2.2.1 ∧ mi (u + 2 + k) 3 = (s.2.2.1 k).2.2.2.1 ∧ mi (u + 2 + k) 4 = (s.2.2.1 k).2.2.2.2) ∧ ∀ a, a < u ∨ a = u + 1 ∨ u + 62 ≤ a → a ≠ 127 → mi a = mi0 a
/-- it has refused at e -/
def tx_RF (mi0 mi : tw_I) (u e : Nat) : Prop := mi 127 6 = nI e ∧ ∀ a, a < u ∨ a = u + 1 ∨ u + 62 ≤ a → a ≠ 127 → mi a = mi0 a
/-- what a reading method answers -/
def tx_ri : tx_R → Int32
  | .inl _ => -9
  | .inr (r, _) => nI r
def tx_RR (mi0 mi : tw_I) (n : Nat) (tp : Nat → Nat) (u : Nat) : tx_R → Prop
  | .inl e => tx_RF mi0 mi u e
  | .inr (_, s) => tx_RC mi0 mi n tp u s
section tw_cread
variable {sc : Nat × (Nat → Int32)} {d t s' i n u : Nat} {mi mi0 : tw_I} {Q : Option Value → tw_G → tw_I → tw_Q → Prop} {tp : Nat → Nat} {s : tx_S}
set_option maxRecDepth 100000 in
theorem tx_p_refuse (hu : u = 1 ∨ u = 63) (hC : tx_RC mi0 mi n tp u s) (hQ : ∀ mi', tx_RF mi0 mi' u (tx_pl n tp s.1) → Q (some (.int (-9))) tw_g0 mi' (tw_r0 t s' i)) : tw_E sc d 81 0 [some (.ref 127)] [] tw_g0 mi (tw_r0 t s' i) Q := by
  obtain ⟨h0, h1, h2, h3, h4, h5, h6, h7⟩ := hC
  simp only [tz_81_0, tz_81_1, tz_81_4, tz_81_6, tz_81_9, tz_81_10, tz_81_11, tz_81_14, tz_81_17, tz_81_19, tk_127, tq_127_0, tq_i, tw_va_s, tw_va_n, tw_K_s, tw_K_n, and_true, true_and, and_false, false_and, true_or, or_true, not_true_eq_false, not_false_eq_true, ↓reduceIte, Nat.reduceEqDiff, h3, not_true_eq_false]
  refine hQ _ ⟨by rw [tw_st_s, tw_st_s, h2.1], fun a ha h => by rw [tw_st_n _ _ h]; exact h7 a ha h⟩
set_option maxRecDepth 100000 in
theorem tx_p_go (hu : u = 1 ∨ u = 63) (hb : ∀ j, j < n → tp j < 256) (hC : tx_RC mi0 mi n tp u s) (hs : s.1 ≤ n) (hQ : ∀ mi', tx_RC mi0 mi' n tp u (tx_ad n tp s) → Q none tw_g0 mi' (tw_r0 t s' i)) : tw_E sc (d + 2) 83 0 [some (.ref 127)] [] tw_g0 mi (tw_r0 t s' i) Q := by
  obtain ⟨h0, h1, h2, h3, h4, h5, h6, h7⟩ := hC
  refine tw_p_adv hb (tx_en_le (tp := tp) hs).2.1 h1 h2.2.2.1 (fun mi' w1 w2 w3 => hQ mi' ⟨h0, ?_, w1, by rw [w3 6 (by decide) (by decide) (by decide) (by decide)]; exact h3, by rw [w3 7 (by decide) (by decide) (by decide) (by decide)]; exact h4, by rw [w2 u (by omega)]; exact h5, ?_, fun a ha h => by rw [w2 a h]; exact h7 a ha h⟩)
  · unfold tw_CT at h1 ⊢
    rw [w2 125 (by decide), w2 126 (by decide)]
    exact h1
  · intro k hk
    have hk2 : k < s.2.1 := hk
    rw [w2 (u + 2 + k) (by omega)]
    exact h6 k hk
set_option maxRecDepth 100000 in
theorem tx_p_make (hu : u = 1 ∨ u = 63) (hC : tx_RC mi0 mi n tp u s) (hM : s.2.1 < 60) (kd : Nat) (a b lo hi : Int32)
    (hQ : ∀ mi', tx_RR mi0 mi' n tp u (tx_mk kd a b lo hi s) → Q (some (.int (tx_ri (tx_mk kd a b lo hi s)))) tw_g0 mi' (tw_r0 t s' u)) : tw_E sc (d + 2) 80 0 [some (.ref 127), some (.int (nI kd)), some (.int a), some (.int b), some (.int lo), some (.int hi), none] [] tw_g0 mi (tw_r0 t s' u) Q := by
  obtain ⟨h0, h1, h2, h3, h4, h5, h6, h7⟩ := hC
  have c1 : nI s.2.1 < 60 := nI_lt (b := 60) hM (by omega)
  have c2 : ¬ nI s.2.1 < 0 := nI_pos (by omega)
  have c3 : (0 : Int32) ≤ nI s.2.1 := Int32.not_lt.mp c2
  have hne : ∀ F : Nat → Int32, ∀ x, x ≠ u + 2 + s.2.1 → tw_st mi (u + 2 + s.2.1) F x = mi x := fun F x hx => tw_st_n _ _ hx
  have e1 : ∀ F : Nat → Int32, tw_st mi (u + 2 + s.2.1) F u = mi u := fun F => hne F u (by omega)
  simp only [tz_80_0, tz_80_1, tz_80_4, tz_80_5, tz_80_6, tz_80_7, tz_80_9, tz_80_11, tz_80_14, tz_80_16, tz_80_18, tz_80_21, tz_80_22, tz_80_25, tz_80_28, tz_80_30, tz_38_0, tz_38_1, tz_38_4, tz_38_6, tz_38_9, tz_38_11, tz_38_12, tz_38_13, tz_38_16, tz_38_17, tz_38_20, tz_38_21, tz_38_22, tz_38_23, tz_38_24, tz_38_26, tz_38_28, tz_38_31, tz_38_32, tz_38_33, tz_38_36, tz_38_37, tz_38_38, tz_38_41, tz_38_42, tz_38_45, tz_38_46, tz_38_47, tz_45_0, tz_45_1, tz_45_2, tz_45_5, tz_45_6, tz_45_7, tz_45_10, tz_45_11, tz_45_12, tz_45_15, tz_45_16, tz_45_18, tz_45_21, tz_45_22, tz_45_24, tz_45_27, tk_127, tq_127_0, tq_i, tw_va_s, tw_va_n, tw_K_s, tw_K_n, and_true, true_and, and_false, false_and, true_or, or_true, not_true_eq_false, not_false_eq_true, ↓reduceIte, Nat.reduceEqDiff, tw_tk hu, tw_tq hu, tw_tk1 hu, tw_tj1 hu, h5, c1, nI_clamp (show s.2.1 < 2 ^ 31 by omega), tw_tq1 hu t s' u hM, tw_tk2 hu hM, vp_in_nI hM (by omega), tw_st_s, tw_st_st, e1, nI_1, nI_pred, c3]
  have fr : ∀ a, a ≠ u → a ≠ u + 2 + s.2.1 → ∀ F G : Nat → Int32, tw_st (tw_st mi (u + 2 + s.2.1) F) u G a = mi a := fun a h1 h2 F G => by rw [tw_st_n _ _ h1, tw_st_n _ _ h2]
  refine hQ _ ⟨by show s.2.1 + 1 ≤ 60; omega, ?_, ?_, ?_, ?_, ?_, fun k hk => ?_, fun a ha h => ?_⟩
  · unfold tw_CT at h1 ⊢
    rw [fr 125 (by omega) (by omega), fr 126 (by omega) (by omega)]
    exact h1
  · unfold tx_CP at h2 ⊢
    rw [fr 127 (by omega) (by omega)]
    exact h2
  · rw [fr 127 (by omega) (by omega)]; exact h3
  · rw [fr 127 (by omega) (by omega)]; exact h4
  · rw [tw_st_s, tw_st_s]
  · have hk2 : k < s.2.1 + 1 := hk
    by_cases e : k = s.2.1
    · subst e
      rw [tw_st_n _ _ (by omega), tw_st_s]
      show _ = nI (tw_st s.2.2.1 s.2.1 (kd, a, b, lo, hi) s.2.1).1 ∧ _ = (tw_st s.2.2.1 s.2.1 (kd, a, b, lo, hi) s.2.1).2.1 ∧ _ = (tw_st s.2.2.1 s.2.1 (kd, a, b, lo, hi) s.2.1).2.2.1 ∧ _ = (tw_st s.2.2.1 s.2.1 (kd, a, b, lo, hi) s.2.1).2.2.2.1 ∧ _ = (tw_st s.2.2.1 s.2.1 (kd, a, b, lo, hi) s.2.1).2.2.2.2
      rw [tw_st_s]
      simp [tw_st_ap]
    · rw [fr (u + 2 + k) (by omega) (by omega)]
      have e2 : tw_st s.2.2.1 s.2.1 (kd, a, b, lo, hi) k = s.2.2.1 k := tw_st_n _ _ e
      show _ = nI (tw_st s.2.2.1 s.2.1 (kd, a, b, lo, hi) k).1 ∧ _ = (tw_st s.2.2.1 s.2.1 (kd, a, b, lo, hi) k).2.1 ∧ _ = (tw_st s.2.2.1 s.2.1 (kd, a, b, lo, hi) k).2.2.1 ∧ _ = (tw_st s.2.2.1 s.2.1 (kd, a, b, lo, hi) k).2.2.2.1 ∧ _ = (tw_st s.2.2.1 s.2.1 (kd, a, b, lo, hi) k).2.2.2.2
      rw [e2]
      exact h6 k (by omega)
  · rw [fr a (by omega) (by omega)]; exact h7 a ha h
end tw_cread
