/-! the law: its loop -/
set_option maxRecDepth 100000 in
theorem tw_and31 (x : Int32) : ∃ c, c < 32 ∧ x &&& 31 = nI c := by
  have e : x = nI x.toBitVec.toNat := by
    apply Int32.toBitVec_inj.1
    show x.toBitVec = BitVec.ofNat 32 x.toBitVec.toNat
    simp
  refine ⟨x.toBitVec.toNat % 32, Nat.mod_lt _ (by omega), ?_⟩
  generalize x.toBitVec.toNat = m at e
  subst e
  show nI m &&& nI 31 = _
  rw [nx_and, show (31 : Nat) = 2 ^ 5 - 1 from rfl, Nat.and_two_pow_sub_one_eq_mod]
def tw_ts : List Nat := [140, 193, 206, 219, 232, 275, 288, 321, 344, 367, 390, 413, 436, 479, 502, 515, 548, 571, 604, 637, 670, 713, 808]
set_option maxRecDepth 100000 in
theorem tw_swt : ∀ c, c < 32 → tw_sw (nI c) 0 tw_ts 831 = tw_ts.getD c 831 := by decide +kernel
set_option maxRecDepth 100000 in
theorem tw_swd : ∀ c, c < 32 → 23 ≤ c → tw_ts.getD c 831 = 831 := by decide +kernel
section tw_law3
variable {sc : Nat × (Nat → Int32)} {D : Nat} {Q : Option Value → tw_G → tw_I → tw_Q → Prop}
set_option maxRecDepth 100000 in
theorem tw_l_end {m i : Nat} (hm : m ≤ 3072) (hi : i ≤ 4000) : (nI m - 6 < nI i) = (m < i + 6) := by
  by_cases h : m < 6
  · have h1 : ∀ m, m < 6 → nI m - 6 < 0 := by decide +kernel
    have h2 := Int32.lt_iff_toInt_lt.mp (h1 m h)
    have h3 := Int32.le_iff_toInt_le.mp (Int32.not_lt.mp (nI_pos (show i < 2 ^ 31 by omega)))
    have h4 : nI m - 6 < nI i := Int32.lt_iff_toInt_lt.mpr (by omega)
    rw [eq_true h4, eq_true (show m < i + 6 by omega)]
  · have e : nI m - 6 = nI (m - 6) := pk_sub (b := 6) (by omega)
    rw [e]
    by_cases g : m < i + 6
    · rw [eq_true g, eq_true (nI_lt (show m - 6 < i by omega) (by omega))]
    · rw [eq_false g, eq_false (nI_nlt (show i ≤ m - 6 by omega) (by omega))]
set_option maxRecDepth 100000 in
theorem tw_l_loop (h : sc.1 ≤ 3072) (hQ : ∀ mi mr, Q (some (.int 1)) tw_g0 mi mr) : ∀ f i mi w t s ii, i ≤ 3800 → sc.1 < i + 6 * f + 6 → tw_IN mi w t s → tw_E sc (D + 400) 174 18 [some (.retAddr 0), some (.ref 0), some (.ref 139), some (.int (nI i))] [] tw_g0 mi (tw_r0 t s ii) Q := by
  intro f
  have e18 : ∀ (i : Nat) mi mr, i ≤ 4000 → tw_E sc (D + 400) 174 18 [some (.retAddr 0), some (.ref 0), some (.ref 139), some (.int (nI i))] [] tw_g0 mi mr Q = if sc.1 < i + 6 then Q (some (.int 1)) tw_g0 mi mr else (vp_in (nI i) sc.1 ∧ tw_E sc (D + 400) 174 (tw_sw (sc.2 (nI i).toNatClampNeg &&& 31) 0 tw_ts 831) [some (.retAddr 0), some (.ref 0), some (.ref 139), some (.int (nI i))] [] tw_g0 mi mr Q) := by
    intro i mi mr hi
    rw [tz_174_18]
    simp only [tz_174_19, tz_174_20, tz_174_21, tz_174_23, tz_174_24, tz_174_27, tz_174_28, tz_174_29, tz_174_30, tz_174_32, tz_174_33, tz_174_837, tz_174_838, tw_va_s, tw_va_n, tw_K_s, tw_K_n, and_true, true_and, and_false, false_and, true_or, or_true, not_true_eq_false, not_false_eq_true, ↓reduceIte, Nat.reduceEqDiff]
    rw [show Int32.ofNat sc.1 = nI sc.1 from rfl]
    have el := tw_l_end (m := sc.1) h hi
    by_cases g : sc.1 < i + 6
    · rw [if_pos (show nI sc.1 - 6 < nI i by rw [el]; exact g), if_pos g]
    · rw [if_neg (show ¬ nI sc.1 - 6 < nI i by rw [el]; exact g), if_neg g]
      rfl
  induction f with
  | zero =>
    intro i mi w t s ii hi hf hI
    rw [e18 i _ _ (by omega), if_pos (by omega)]
    exact hQ mi _
  | succ f ih =>
    intro i mi w t s ii hi hf hI
    rw [e18 i _ _ (by omega)]
    by_cases hl : sc.1 < i + 6
    · rw [if_pos hl]
      exact hQ mi _
    · rw [if_neg hl]
      have hi6 : i + 6 ≤ sc.1 := by omega
      refine ⟨vp_in_nI (by omega) (by omega), ?_⟩
      rw [nI_clamp (show i < 2 ^ 31 by omega)]
      have hN : tw_GX sc D Q i := fun mi w t s ii hI => ih (i + 6) mi w t s ii (by omega) (by omega) hI
      obtain ⟨c, hc, e⟩ := tw_and31 (sc.2 i)
      rw [e, tw_swt c hc]
      rcases (show c = 0 ∨ c = 1 ∨ c = 2 ∨ c = 3 ∨ c = 4 ∨ c = 5 ∨ c = 6 ∨ c = 7 ∨ c = 8 ∨ c = 9 ∨ c = 10 ∨ c = 11 ∨ c = 12 ∨ c = 13 ∨ c = 14 ∨ c = 15 ∨ c = 16 ∨ c = 17 ∨ c = 18 ∨ c = 19 ∨ c = 20 ∨ c = 21 ∨ c = 22 ∨ 23 ≤ c by omega) with rfl | rfl | rfl | rfl | rfl | rfl | rfl | rfl | rfl | rfl | rfl | rfl | rfl | rfl | rfl | rfl | rfl | rfl | rfl | rfl | rfl | rfl | rfl | h23
      · exact tw_l_feed h hi6 hI hN
      · exact tw_l_cut h hi6 hI hN
      · exact tw_l_read h hi6 hI hN
      · exact tw_l_fault h hi6 hI hN
      · exact tw_l_node h hi6 hI hN
      · exact tw_l_arm h hi6 hI hN
      · exact tw_l_sample h hi6 hI hN
      · exact tw_l_holds h hi6 hI hN
      · exact tw_l_waits h hi6 hI hN
      · exact tw_l_held h hi6 hI hN
      · exact tw_l_when h hi6 hI hN
      · exact tw_l_at h hi6 hI hN
      · exact tw_l_grab h hi6 hI hN
      · exact tw_l_caught h hi6 hI hN
      · exact tw_l_runs h hi6 hI hN
      · exact tw_l_run h hi6 hI hN
      · exact tw_l_squeezed h hi6 hI hN
      · exact tw_l_frames h hi6 hI hN
      · exact tw_l_bytes h hi6 hI hN
      · exact tw_l_mark h hi6 hI hN
      · exact tw_l_sendf h hi6 hI hN
      · exact tw_l_sendb h hi6 hI hN
      · exact tw_l_total h hi6 hI hN
      · rw [tw_swd c hc h23]
        simp only [tz_174_831, tz_174_834, tw_nI6]
        exact hN mi w t s ii hI
end tw_law3
