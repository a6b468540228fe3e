/-! the tape -/
section tw_tape
variable {sc : Nat × (Nat → Int32)} {d t s i : Nat} {mi : tw_I} {mr : tw_Q} {g : tw_G} {Q : Option Value → tw_G → tw_I → tw_Q → Prop}
set_option maxRecDepth 100000 in
theorem tw_p_byteOf {w k : Nat} (hw : w < 2 ^ 64) (hk : k < 8) : tw_E sc d 65 0 [some (.long (lN w)), none, some (.int (nI k))] [] g mi mr Q = Q (some (.int (nI (tw_by w k)))) g mi mr := by
  simp only [tz_65_0, tz_65_1, tz_65_3, tz_65_4, tz_65_5, tz_65_6, tz_65_7, tz_65_10, tz_65_11, tw_by_u hw hk]
set_option maxRecDepth 100000 in
theorem tw_p_cntl {w : Nat} (hw : w < 2 ^ 64) : ∀ f k, 8 ≤ k + f → k ≤ 8 → tw_E sc (d + 1) 64 2 [some (.long (lN w)), none, some (.int (nI k))] [] g mi mr Q = Q (some (.int (nI (tw_cnt w f k)))) g mi mr := by
  intro f
  induction f with
  | zero =>
    intro k h1 h2
    simp only [tz_64_0, tz_64_1, tz_64_2, tz_64_3, tz_64_5, tz_64_8, tz_64_9, tz_64_10, tz_64_13, tz_64_16, tz_64_19, tz_64_22, tz_64_23, tw_cnt, tl0, tl1, tl2, tl3, tl4, tl5, tl6, tl7, tl8, tl9, tl10, tl15, tl16, tl20, tl24, tl32, tl33, tl38, tl40, tl41, tl42, tl43, tl44, tl45, tl47, tl48, tl57, tl58, tl59, tl60, tl97, tl112, tl126, tl255, tl256, tl257, tl258, tl400, tl500, tl512, tl999, tl1000, tl1001, tl4000, tl65535, nI_add]
    rw [tw_le_t (by omega) (by omega)]
  | succ f ih =>
    intro k h1 h2
    simp only [tz_64_0, tz_64_1, tz_64_2, tz_64_3, tz_64_5, tz_64_8, tz_64_9, tz_64_10, tz_64_13, tz_64_16, tz_64_19, tz_64_22, tz_64_23, tw_cnt, tl0, tl1, tl2, tl3, tl4, tl5, tl6, tl7, tl8, tl9, tl10, tl15, tl16, tl20, tl24, tl32, tl33, tl38, tl40, tl41, tl42, tl43, tl44, tl45, tl47, tl48, tl57, tl58, tl59, tl60, tl97, tl112, tl126, tl255, tl256, tl257, tl258, tl400, tl500, tl512, tl999, tl1000, tl1001, tl4000, tl65535, nI_add]
    by_cases h3 : k < 8
    · rw [tw_le_f (by omega) (by omega), tw_p_byteOf hw h3]
      simp only [tz_64_0, tz_64_1, tz_64_3, tz_64_5, tz_64_8, tz_64_9, tz_64_10, tz_64_13, tz_64_16, tz_64_19, tz_64_22, tz_64_23, tw_va_s, tw_va_n, tw_K_s, tw_K_n, and_true, true_and, and_false, false_and, true_or, or_true, not_true_eq_false, not_false_eq_true, ↓reduceIte, Nat.reduceEqDiff, tl0, tl1, tl2, tl3, tl4, tl5, tl6, tl7, tl8, tl9, tl10, tl15, tl16, tl20, tl24, tl32, tl33, tl38, tl40, tl41, tl42, tl43, tl44, tl45, tl47, tl48, tl57, tl58, tl59, tl60, tl97, tl112, tl126, tl255, tl256, tl257, tl258, tl400, tl500, tl512, tl999, tl1000, tl1001, tl4000, tl65535, nI_add]
      by_cases h4 : tw_by w k = 0
      · rw [h4, tw_eq_t rfl, if_neg (by omega)]
      · have h5 := tw_by_lt w k
        rw [tw_eq_f h4 (by omega) (by omega), if_pos ⟨h3, h4⟩]
        exact ih (k + 1) (by omega) (by omega)
    · rw [tw_le_t (by omega) (by omega), if_neg (by omega)]
set_option maxRecDepth 100000 in
theorem tw_p_cnt {w : Nat} (hw : w < 2 ^ 64) : tw_E sc (d + 1) 64 0 [some (.long (lN w)), none, none] [] g mi mr Q = Q (some (.int (nI (tw_cnt w 8 0)))) g mi mr := by
  simp only [tz_64_0, tz_64_1, tz_64_3, tz_64_5, tz_64_8, tz_64_9, tz_64_10, tz_64_13, tz_64_16, tz_64_19, tz_64_22, tz_64_23, tl0, tl1, tl2, tl3, tl4, tl5, tl6, tl7, tl8, tl9, tl10, tl15, tl16, tl20, tl24, tl32, tl33, tl38, tl40, tl41, tl42, tl43, tl44, tl45, tl47, tl48, tl57, tl58, tl59, tl60, tl97, tl112, tl126, tl255, tl256, tl257, tl258, tl400, tl500, tl512, tl999, tl1000, tl1001, tl4000, tl65535, nI_add]
  exact tw_p_cntl hw 8 0 (by omega) (by omega)
/-- the class's tape holds the bytes tp, n of them -/
def tw_CT (mi : tw_I) (n : Nat) (tp : Nat → Nat) : Prop := n ≤ 60 ∧ mi 125 1 = nI n ∧ ∀ j, j < n → mi 126 j = nI (tp j)
/-- what is fed stands behind what there was -/
def tw_ft (n : Nat) (tp : Nat → Nat) (w : Nat) : Nat → Nat := fun j => if n ≤ j then tw_by w (j - n) else tp j
set_option maxRecDepth 100000 in
theorem tw_p_appl {w c n : Nat} {tp : Nat → Nat} (hw : w < 2 ^ 64) (hc : c ≤ 8) (hn : n + c ≤ 60) : ∀ f k (mi : tw_I), c ≤ k + f → k ≤ c → tw_CT mi (n + k) (tw_ft n tp w) → (∀ mi', tw_CT mi' (n + c) (tw_ft n tp w) → (∀ a, a ≠ 125 → a ≠ 126 → mi' a = mi a) → Q (some (.int (nI (n + c)))) tw_g0 mi' (tw_r0 t s i)) →
    tw_E sc (d + 1) 59 22 [some (.ref 125), some (.long (lN w)), none, some (.int (nI c)), some (.int (nI k))] [] tw_g0 mi (tw_r0 t s i) Q := by
  intro f
  induction f with
  | zero =>
    intro k mi h1 h2 hT hQ
    obtain rfl : k = c := by omega
    simp only [tz_59_0, tz_59_1, tz_59_4, tz_59_5, tz_59_6, tz_59_8, tz_59_9, tz_59_12, tz_59_13, tz_59_16, tz_59_18, tz_59_19, tz_59_20, tz_59_22, tz_59_24, tz_59_25, tz_59_28, tz_59_29, tz_59_32, tz_59_34, tz_59_37, tz_59_38, tz_59_41, tz_59_42, tz_59_45, tz_59_46, tz_59_48, tz_59_51, tz_59_52, tz_59_53, tz_59_54, tz_59_57, tz_59_58, tz_59_59, tz_59_62, tz_59_65, tz_59_68, tz_59_69, tz_59_72, tk_125, tq_125_0, tk_126, tj_126, tw_va_s, tw_va_n, tw_K_s, tw_K_n, and_true, true_and, and_false, false_and, true_or, or_true, not_true_eq_false, not_false_eq_true, ↓reduceIte, Nat.reduceEqDiff, hT.2.1]
    rw [tw_le_t (by omega) (by omega)]
    exact hQ mi hT (fun _ _ _ => rfl)
  | succ f ih =>
    intro k mi h1 h2 hT hQ
    simp only [tz_59_0, tz_59_1, tz_59_4, tz_59_5, tz_59_6, tz_59_8, tz_59_9, tz_59_12, tz_59_13, tz_59_16, tz_59_18, tz_59_19, tz_59_20, tz_59_22, tz_59_24, tz_59_25, tz_59_28, tz_59_29, tz_59_32, tz_59_34, tz_59_37, tz_59_38, tz_59_41, tz_59_42, tz_59_45, tz_59_46, tz_59_48, tz_59_51, tz_59_52, tz_59_53, tz_59_54, tz_59_57, tz_59_58, tz_59_59, tz_59_62, tz_59_65, tz_59_68, tz_59_69, tz_59_72, tk_125, tq_125_0, tk_126, tj_126, tw_va_s, tw_va_n, tw_K_s, tw_K_n, and_true, true_and, and_false, false_and, true_or, or_true, not_true_eq_false, not_false_eq_true, ↓reduceIte, Nat.reduceEqDiff, hT.2.1, tl0, tl1, tl2, tl3, tl4, tl5, tl6, tl7, tl8, tl9, tl10, tl15, tl16, tl20, tl24, tl32, tl33, tl38, tl40, tl41, tl42, tl43, tl44, tl45, tl47, tl48, tl57, tl58, tl59, tl60, tl97, tl112, tl126, tl255, tl256, tl257, tl258, tl400, tl500, tl512, tl999, tl1000, tl1001, tl4000, tl65535, nI_add]
    by_cases h3 : k < c
    · rw [tw_le_f (by omega) (by omega), tw_le_f (by omega) (by omega), tw_p_byteOf hw (by omega)]
      simp only [tz_59_0, tz_59_1, tz_59_4, tz_59_5, tz_59_6, tz_59_8, tz_59_9, tz_59_12, tz_59_13, tz_59_16, tz_59_18, tz_59_19, tz_59_20, tz_59_24, tz_59_25, tz_59_28, tz_59_29, tz_59_32, tz_59_34, tz_59_37, tz_59_38, tz_59_41, tz_59_42, tz_59_45, tz_59_46, tz_59_48, tz_59_51, tz_59_52, tz_59_53, tz_59_54, tz_59_57, tz_59_58, tz_59_59, tz_59_62, tz_59_65, tz_59_68, tz_59_69, tz_59_72, tk_125, tq_125_0, tk_126, tj_126, tw_va_s, tw_va_n, tw_K_s, tw_K_n, and_true, true_and, and_false, false_and, true_or, or_true, not_true_eq_false, not_false_eq_true, ↓reduceIte, Nat.reduceEqDiff, hT.2.1, tl0, tl1, tl2, tl3, tl4, tl5, tl6, tl7, tl8, tl9, tl10, tl15, tl16, tl20, tl24, tl32, tl33, tl38, tl40, tl41, tl42, tl43, tl44, tl45, tl47, tl48, tl57, tl58, tl59, tl60, tl97, tl112, tl126, tl255, tl256, tl257, tl258, tl400, tl500, tl512, tl999, tl1000, tl1001, tl4000, tl65535, nI_add, tw_st_ap, nI_clamp (show n + k < 2 ^ 31 by omega)]
      refine ⟨vp_in_nI (by omega) (by omega), ?_⟩
      refine ih (k + 1) _ (by omega) (by omega) ⟨by omega, ?_, fun j hj => ?_⟩ (fun mi' q1 q2 => hQ mi' q1 (fun a ha hb => ?_))
      · simp only [tw_st_ap, ↓reduceIte, Nat.add_assoc]
      · simp only [tw_st_ap, ↓reduceIte, Nat.reduceEqDiff]
        by_cases hj2 : j = n + k
        · subst hj2
          simp [tw_ft]
        · rw [if_neg hj2]
          exact hT.2.2 j (by omega)
      · rw [q2 a ha hb]
        simp only [tw_st_ap, if_neg ha, if_neg hb]
    · obtain rfl : k = c := by omega
      rw [tw_le_t (by omega) (by omega)]
      exact hQ mi hT (fun _ _ _ => rfl)
set_option maxRecDepth 100000 in
theorem tw_p_feed {w n : Nat} {tp : Nat → Nat} (hw : w < 2 ^ 64) (hT : tw_CT mi n tp)
    (h1 : 60 < n + tw_cnt w 8 0 → Q (some (.int (-4))) tw_g0 mi (tw_r0 t s i))
    (h2 : n + tw_cnt w 8 0 ≤ 60 → ∀ mi', tw_CT mi' (n + tw_cnt w 8 0) (tw_ft n tp w) → (∀ a, a ≠ 125 → a ≠ 126 → mi' a = mi a) → Q (some (.int (nI (n + tw_cnt w 8 0)))) tw_g0 mi' (tw_r0 t s i)) :
    tw_E sc (d + 3) 1 0 [some (.ref 0), some (.long (lN w)), none] [] tw_g0 mi (tw_r0 t s i) Q := by
  obtain ⟨-, hc, -⟩ := tw_cnt_le w 8 0 (by omega)
  have hn := hT.1
  simp only [tz_1_0, tz_1_1, tz_1_4, tz_1_5, tz_1_8, tz_59_0, tz_59_1, tz_59_4, tz_59_5, tz_59_6, tz_59_8, tz_59_9, tz_59_12, tz_59_13, tz_59_16, tz_59_18, tz_59_19, tz_59_20, tz_59_24, tz_59_25, tz_59_28, tz_59_29, tz_59_32, tz_59_34, tz_59_37, tz_59_38, tz_59_41, tz_59_42, tz_59_45, tz_59_46, tz_59_48, tz_59_51, tz_59_52, tz_59_53, tz_59_54, tz_59_57, tz_59_58, tz_59_59, tz_59_62, tz_59_65, tz_59_68, tz_59_69, tz_59_72, tk_0, tq_0_0, tq_0_1, tq_0_2, tq_0_3, tq_0_4, tq_0_5, tq_0_6, tq_t, tq_s, tk_125, tq_125_0, tk_126, tj_126, tw_va_s, tw_va_n, tw_K_s, tw_K_n, and_true, true_and, and_false, false_and, true_or, or_true, not_true_eq_false, not_false_eq_true, ↓reduceIte, Nat.reduceEqDiff, tl0, tl1, tl2, tl3, tl4, tl5, tl6, tl7, tl8, tl9, tl10, tl15, tl16, tl20, tl24, tl32, tl33, tl38, tl40, tl41, tl42, tl43, tl44, tl45, tl47, tl48, tl57, tl58, tl59, tl60, tl97, tl112, tl126, tl255, tl256, tl257, tl258, tl400, tl500, tl512, tl999, tl1000, tl1001, tl4000, tl65535, nI_add, tw_p_cnt hw, hT.2.1, pk_sub hn]
  by_cases h : n + tw_cnt w 8 0 ≤ 60
  · rw [tw_le_t (by omega) (by omega)]
    have hT0 : tw_CT mi (n + 0) (tw_ft n tp w) := ⟨by omega, hT.2.1, fun j hj => by rw [hT.2.2 j hj]; simp only [tw_ft]; rw [if_neg (by omega)]⟩
    exact tw_p_appl hw hc h 8 0 mi (by omega) (by omega) hT0 (fun mi' q1 q2 => by simp only [tz_1_0, tz_1_1, tz_1_4, tz_1_5, tz_1_8, tw_va_s, tw_va_n, tw_K_s, tw_K_n, and_true, true_and, and_false, false_and, true_or, or_true, not_true_eq_false, not_false_eq_true, ↓reduceIte, Nat.reduceEqDiff]; exact h2 h mi' q1 q2)
  · rw [tw_le_f (by omega) (by omega)]
    exact h1 (by omega)
end tw_tape
