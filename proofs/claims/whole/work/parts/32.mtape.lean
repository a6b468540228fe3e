/-! the reference's tape -/
section tw_mtape
variable {sc : Nat × (Nat → Int32)} {d t s i : Nat} {mi : tw_I} {mr : tw_Q} {g : tw_G} {Q : Option Value → tw_G → tw_I → tw_Q → Prop}
/-- the reference's tape holds the bytes tp, n of them -/
def tw_Mt (mi : tw_I) (n : Nat) (tp : Nat → Nat) : Prop := n ≤ 60 ∧ mi 139 2 = nI n ∧ ∀ j, j < n → mi 140 j = nI (tp j)
set_option maxRecDepth 100000 in
theorem tw_lz (n : Nat) : ∀ {k : Nat}, k < 256 → (lg_cmp (lN k) 0 = 0) = (k = 0) := by
  intro k hk
  rw [lg_cmp_eq, show (0 : Int64) = lN 0 from rfl, lN_eq (by omega) (by omega)]
set_option maxRecDepth 100000 in
theorem tw_q_cnt {w : Nat} (hw : w < 2 ^ 64) : ∀ f k, 8 ≤ k + f → k ≤ 8 → tw_E sc d 127 7 [some (.ref 139), some (.long (lN w)), none, some (.int (nI k)), none] [] tw_g0 mi (tw_r0 t s i) Q = tw_E sc d 127 34 [some (.ref 139), some (.long (lN w)), none, some (.int (nI (tw_cnt w f k))), none] [] tw_g0 mi (tw_r0 t s i) Q := by
  intro f
  induction f with
  | zero =>
    intro k h1 h2
    rw [tz_127_7, tz_127_8, tz_127_10]
    simp only [tw_cnt, tl0, tl1, tl2, tl3, tl4, tl5, tl6, tl7, tl8, tl9, tl10, tl15, tl16, tl20, tl24, tl32, tl33, tl38, tl40, tl41, tl42, tl43, tl44, tl45, tl47, tl48, tl57, tl58, tl59, tl60, tl97, tl112, tl126, tl255, tl256, tl257, tl258, tl400, tl500, tl512, tl999, tl1000, tl1001, tl4000, tl65535, nI_add]
    rw [tw_le_t (by omega) (by omega)]
  | succ f ih =>
    intro k h1 h2
    by_cases h3 : k < 8
    · rw [tz_127_7, tz_127_8, tz_127_10]
      simp only [tw_cnt, tl0, tl1, tl2, tl3, tl4, tl5, tl6, tl7, tl8, tl9, tl10, tl15, tl16, tl20, tl24, tl32, tl33, tl38, tl40, tl41, tl42, tl43, tl44, tl45, tl47, tl48, tl57, tl58, tl59, tl60, tl97, tl112, tl126, tl255, tl256, tl257, tl258, tl400, tl500, tl512, tl999, tl1000, tl1001, tl4000, tl65535, nI_add]
      rw [tw_le_f (by omega) (by omega)]
      rw [tz_127_13, tz_127_14, tz_127_16, tz_127_17, tz_127_18, tz_127_19, tz_127_22, tz_127_23, tz_127_24, tz_127_25, tw_by_s hw h3]
      simp only [tw_lz 0 (tw_by_lt w k)]
      by_cases h4 : tw_by w k = 0
      · rw [if_pos h4, if_neg (fun h => h.2 h4)]
      · rw [if_neg h4, if_pos ⟨h3, h4⟩, tz_127_28, tz_127_31, nI_1]
        exact ih (k + 1) (by omega) (by omega)
    · rw [tz_127_7, tz_127_8, tz_127_10]
      simp only [tw_cnt, tl0, tl1, tl2, tl3, tl4, tl5, tl6, tl7, tl8, tl9, tl10, tl15, tl16, tl20, tl24, tl32, tl33, tl38, tl40, tl41, tl42, tl43, tl44, tl45, tl47, tl48, tl57, tl58, tl59, tl60, tl97, tl112, tl126, tl255, tl256, tl257, tl258, tl400, tl500, tl512, tl999, tl1000, tl1001, tl4000, tl65535, nI_add]
      rw [tw_le_t (by omega) (by omega), if_neg (by omega)]
set_option maxRecDepth 100000 in
theorem tw_q_app {w c n : Nat} {tp : Nat → Nat} (hw : w < 2 ^ 64) (hc : c ≤ 8) (hn : n + c ≤ 60) : ∀ f k (mi : tw_I), c ≤ k + f → k ≤ c → mi 139 2 = nI n → (∀ j, j < n + k → mi 140 j = nI (tw_ft n tp w j)) → (∀ mi', tw_Mt mi' (n + c) (tw_ft n tp w) → (∀ a, a ≠ 139 → a ≠ 140 → mi' a = mi a) → (∀ x, x ≠ 2 → mi' 139 x = mi 139 x) → Q (some (.int (nI (n + c)))) tw_g0 mi' (tw_r0 t s i)) →
    tw_E sc d 127 51 [some (.ref 139), some (.long (lN w)), none, some (.int (nI c)), some (.int (nI k))] [] tw_g0 mi (tw_r0 t s i) Q := by
  intro f
  induction f with
  | zero =>
    intro k mi h1 h2 hF hT hQ
    obtain rfl : k = c := by omega
    rw [tz_127_51]
    simp only [tz_127_0, tz_127_1, tz_127_2, tz_127_5, tz_127_6, tz_127_8, tz_127_10, tz_127_13, tz_127_14, tz_127_16, tz_127_17, tz_127_18, tz_127_19, tz_127_22, tz_127_23, tz_127_24, tz_127_25, tz_127_28, tz_127_31, tz_127_34, tz_127_35, tz_127_38, tz_127_39, tz_127_40, tz_127_42, tz_127_45, tz_127_47, tz_127_48, tz_127_49, tz_127_53, tz_127_54, tz_127_57, tz_127_58, tz_127_61, tz_127_62, tz_127_65, tz_127_67, tz_127_68, tz_127_69, tz_127_71, tz_127_73, tz_127_74, tz_127_75, tz_127_78, tz_127_79, tz_127_80, tz_127_81, tz_127_84, tz_127_87, tz_127_88, tz_127_89, tz_127_92, tz_127_93, tz_127_94, tz_127_97, tz_127_98, tz_127_101, tk_139, tq_139_1, tq_139_6, tq_139_7, tq_139_8, tq_139_9, tq_139_10, tq_139_12, tq_139_13, tq_139_14, tq_139_15, tq_139_16, tq_139_17, tq_139_18, tq_139_19, tq_139_21, tq_139_22, tq_139_24, tq_139_26, tq_139_27, tq_139_28, tq_139_34, tq_139_35, tq_139_36, tq_139_37, tw_va_s, tw_va_n, tw_K_s, tw_K_n, and_true, true_and, and_false, false_and, true_or, or_true, not_true_eq_false, not_false_eq_true, ↓reduceIte, Nat.reduceEqDiff, hF, tl0, tl1, tl2, tl3, tl4, tl5, tl6, tl7, tl8, tl9, tl10, tl15, tl16, tl20, tl24, tl32, tl33, tl38, tl40, tl41, tl42, tl43, tl44, tl45, tl47, tl48, tl57, tl58, tl59, tl60, tl97, tl112, tl126, tl255, tl256, tl257, tl258, tl400, tl500, tl512, tl999, tl1000, tl1001, tl4000, tl65535, nI_add, tw_st_ap]
    rw [tw_le_t (by omega) (by omega)]
    refine hQ _ ⟨hn, by simp only [tw_st_ap, ↓reduceIte], fun j hj => ?_⟩ (fun a h1 h2 => by simp only [tw_st_ap, if_neg h1]) (fun x hx => by simp only [tw_st_ap, ↓reduceIte, if_neg hx])
    simp only [tw_st_ap, ↓reduceIte, Nat.reduceEqDiff]
    exact hT j hj
  | succ f ih =>
    intro k mi h1 h2 hF hT hQ
    by_cases h3 : k < c
    · rw [tz_127_51]
      simp only [tz_127_0, tz_127_1, tz_127_2, tz_127_5, tz_127_6, tz_127_8, tz_127_10, tz_127_13, tz_127_14, tz_127_16, tz_127_17, tz_127_18, tz_127_19, tz_127_22, tz_127_23, tz_127_24, tz_127_25, tz_127_28, tz_127_31, tz_127_34, tz_127_35, tz_127_38, tz_127_39, tz_127_40, tz_127_42, tz_127_45, tz_127_47, tz_127_48, tz_127_49, tz_127_53, tz_127_54, tz_127_57, tz_127_58, tz_127_61, tz_127_62, tz_127_65, tz_127_67, tz_127_68, tz_127_69, tz_127_71, tz_127_73, tz_127_74, tz_127_75, tz_127_78, tz_127_79, tz_127_80, tz_127_81, tz_127_84, tz_127_87, tz_127_88, tz_127_89, tz_127_92, tz_127_93, tz_127_94, tz_127_97, tz_127_98, tz_127_101, tk_139, tq_139_1, tq_139_6, tq_139_7, tq_139_8, tq_139_9, tq_139_10, tq_139_12, tq_139_13, tq_139_14, tq_139_15, tq_139_16, tq_139_17, tq_139_18, tq_139_19, tq_139_21, tq_139_22, tq_139_24, tq_139_26, tq_139_27, tq_139_28, tq_139_34, tq_139_35, tq_139_36, tq_139_37, tk_140, tj_140, tw_va_s, tw_va_n, tw_K_s, tw_K_n, and_true, true_and, and_false, false_and, true_or, or_true, not_true_eq_false, not_false_eq_true, ↓reduceIte, Nat.reduceEqDiff, hF, tl0, tl1, tl2, tl3, tl4, tl5, tl6, tl7, tl8, tl9, tl10, tl15, tl16, tl20, tl24, tl32, tl33, tl38, tl40, tl41, tl42, tl43, tl44, tl45, tl47, tl48, tl57, tl58, tl59, tl60, tl97, tl112, tl126, tl255, tl256, tl257, tl258, tl400, tl500, tl512, tl999, tl1000, tl1001, tl4000, tl65535, nI_add, tw_st_ap, nI_clamp (show n + k < 2 ^ 31 by omega), tw_by_sn hw (show k < 8 by omega), lN_i]
      rw [tw_le_f (by omega) (by omega)]
      refine ⟨vp_in_nI (by omega) (by omega), ?_⟩
      refine ih (k + 1) _ (by omega) (by omega) (by simp only [tw_st_ap, ↓reduceIte, Nat.reduceEqDiff]; exact hF) (fun j hj => ?_) (fun mi' q1 q2 q3 => hQ mi' q1 (fun a ha hb => ?_) (fun x hx => ?_))
      · simp only [tw_st_ap, ↓reduceIte, Nat.reduceEqDiff]
        by_cases hj2 : j = n + k
        · subst hj2
          simp [tw_ft]
        · rw [if_neg hj2]
          exact hT j (by omega)
      · rw [q2 a ha hb]
        simp only [tw_st_ap, if_neg hb]
      · rw [q3 x hx]
        simp only [tw_st_ap, ↓reduceIte, Nat.reduceEqDiff]
    · obtain rfl : k = c := by omega
      rw [tz_127_51]
      simp only [tz_127_0, tz_127_1, tz_127_2, tz_127_5, tz_127_6, tz_127_8, tz_127_10, tz_127_13, tz_127_14, tz_127_16, tz_127_17, tz_127_18, tz_127_19, tz_127_22, tz_127_23, tz_127_24, tz_127_25, tz_127_28, tz_127_31, tz_127_34, tz_127_35, tz_127_38, tz_127_39, tz_127_40, tz_127_42, tz_127_45, tz_127_47, tz_127_48, tz_127_49, tz_127_53, tz_127_54, tz_127_57, tz_127_58, tz_127_61, tz_127_62, tz_127_65, tz_127_67, tz_127_68, tz_127_69, tz_127_71, tz_127_73, tz_127_74, tz_127_75, tz_127_78, tz_127_79, tz_127_80, tz_127_81, tz_127_84, tz_127_87, tz_127_88, tz_127_89, tz_127_92, tz_127_93, tz_127_94, tz_127_97, tz_127_98, tz_127_101, tk_139, tq_139_1, tq_139_6, tq_139_7, tq_139_8, tq_139_9, tq_139_10, tq_139_12, tq_139_13, tq_139_14, tq_139_15, tq_139_16, tq_139_17, tq_139_18, tq_139_19, tq_139_21, tq_139_22, tq_139_24, tq_139_26, tq_139_27, tq_139_28, tq_139_34, tq_139_35, tq_139_36, tq_139_37, tw_va_s, tw_va_n, tw_K_s, tw_K_n, and_true, true_and, and_false, false_and, true_or, or_true, not_true_eq_false, not_false_eq_true, ↓reduceIte, Nat.reduceEqDiff, hF, tl0, tl1, tl2, tl3, tl4, tl5, tl6, tl7, tl8, tl9, tl10, tl15, tl16, tl20, tl24, tl32, tl33, tl38, tl40, tl41, tl42, tl43, tl44, tl45, tl47, tl48, tl57, tl58, tl59, tl60, tl97, tl112, tl126, tl255, tl256, tl257, tl258, tl400, tl500, tl512, tl999, tl1000, tl1001, tl4000, tl65535, nI_add, tw_st_ap]
      rw [tw_le_t (by omega) (by omega)]
      refine hQ _ ⟨hn, by simp only [tw_st_ap, ↓reduceIte], fun j hj => ?_⟩ (fun a h1 h2 => by simp only [tw_st_ap, if_neg h1]) (fun x hx => by simp only [tw_st_ap, ↓reduceIte, if_neg hx])
      simp only [tw_st_ap, ↓reduceIte, Nat.reduceEqDiff]
      exact hT j hj
set_option maxRecDepth 100000 in
theorem tw_q_feed {w n : Nat} {tp : Nat → Nat} (hw : w < 2 ^ 64) (hT : tw_Mt mi n tp)
    (h1 : 60 < n + tw_cnt w 8 0 → ∀ mi', (∀ a, a ≠ 139 → mi' a = mi a) → (∀ x, x ≠ 0 → mi' 139 x = mi 139 x) → Q (some (.int (-4))) tw_g0 mi' (tw_r0 t s i))
    (h2 : n + tw_cnt w 8 0 ≤ 60 → ∀ mi', tw_Mt mi' (n + tw_cnt w 8 0) (tw_ft n tp w) → (∀ a, a ≠ 139 → a ≠ 140 → mi' a = mi a) → (∀ x, x ≠ 0 → x ≠ 2 → mi' 139 x = mi 139 x) → Q (some (.int (nI (n + tw_cnt w 8 0)))) tw_g0 mi' (tw_r0 t s i)) :
    tw_E sc d 127 0 [some (.ref 139), some (.long (lN w)), none, none, none] [] tw_g0 mi (tw_r0 t s i) Q := by
  obtain ⟨-, hc, -⟩ := tw_cnt_le w 8 0 (by omega)
  have hn := hT.1
  have hF : tw_st mi 139 (tw_st (mi 139) 0 0) 139 2 = nI n := by simp only [tw_st_ap, ↓reduceIte, Nat.reduceEqDiff]; exact hT.2.1
  have fr1 : ∀ a, a ≠ 139 → tw_st mi 139 (tw_st (mi 139) 0 0) a = mi a := fun a ha => by simp only [tw_st_ap, if_neg ha]
  have fr2 : ∀ x, x ≠ 0 → tw_st mi 139 (tw_st (mi 139) 0 0) 139 x = mi 139 x := fun x hx => by simp only [tw_st_ap, ↓reduceIte, if_neg hx]
  rw [tz_127_0, tz_127_1, tz_127_2]
  refine ⟨tk_139, ?_⟩
  rw [tz_127_5, tz_127_6, show (.int 0 : Value) = .int (nI 0) from rfl, tw_q_cnt hw 8 0 (by omega) (by omega)]
  rw [tz_127_34, tz_127_35]
  refine ⟨tk_139, ?_⟩
  rw [hF, tz_127_38, tz_127_39, nI_add, tz_127_40, tz_127_42]
  by_cases h : n + tw_cnt w 8 0 ≤ 60
  · rw [if_pos (show nI _ ≤ (60 : Int32) from nI_le (b := 60) h (by omega)), tz_127_48, tz_127_49]
    refine tw_q_app hw hc h 8 0 _ (by omega) (by omega) hF (fun j hj => ?_) (fun mi' q1 q2 q3 => h2 h mi' q1 (fun a ha hb => (q2 a ha hb).trans (fr1 a ha)) (fun x hx hy => (q3 x hy).trans (fr2 x hx)))
    simp only [tw_st_ap, Nat.reduceEqDiff, ↓reduceIte, tw_ft]
    rw [if_neg (by omega)]
    exact hT.2.2 j (by omega)
  · rw [if_neg (show ¬ nI _ ≤ (60 : Int32) from nI_ge (a := 60) (by omega) (by omega)), tz_127_45, tz_127_47]
    exact h1 (by omega) _ fr1 fr2
set_option maxRecDepth 100000 in
theorem tw_q_cut {n : Nat} {tp : Nat → Nat} (hT : tw_Mt mi n tp) (h : ∀ mi', tw_Mt mi' 0 tp → (∀ a, a ≠ 139 → mi' a = mi a) → (∀ x, x ≠ 0 → x ≠ 2 → mi' 139 x = mi 139 x) → Q (some (.int (nI n))) tw_g0 mi' (tw_r0 t s i)) : tw_E sc d 128 0 [some (.ref 139), none] [] tw_g0 mi (tw_r0 t s i) Q := by
  simp only [tz_128_0, tz_128_1, tz_128_2, tz_128_5, tz_128_6, tz_128_9, tz_128_10, tz_128_11, tz_128_12, tz_128_15, tz_128_16, tk_139, tq_139_1, tq_139_6, tq_139_7, tq_139_8, tq_139_9, tq_139_10, tq_139_12, tq_139_13, tq_139_14, tq_139_15, tq_139_16, tq_139_17, tq_139_18, tq_139_19, tq_139_21, tq_139_22, tq_139_24, tq_139_26, tq_139_27, tq_139_28, tq_139_34, tq_139_35, tq_139_36, tq_139_37, tw_va_s, tw_va_n, tw_K_s, tw_K_n, and_true, true_and, and_false, false_and, true_or, or_true, not_true_eq_false, not_false_eq_true, ↓reduceIte, Nat.reduceEqDiff, tw_st_ap, hT.2.1]
  exact h _ ⟨by omega, by simp only [tw_st_ap, ↓reduceIte]; rfl, fun j hj => by omega⟩ (fun a ha => by simp only [tw_st_ap, if_neg ha]) (fun x h1 h2 => by simp only [tw_st_ap, ↓reduceIte, if_neg h1, if_neg h2])
set_option maxRecDepth 100000 in
theorem tw_p_cut {n : Nat} {tp : Nat → Nat} (hT : tw_CT mi n tp) (h : ∀ mi', tw_CT mi' 0 tp → (∀ a, a ≠ 125 → mi' a = mi a) → Q (some (.int (nI n))) tw_g0 mi' (tw_r0 t s i)) : tw_E sc (d + 2) 2 0 [some (.ref 0), none] [] tw_g0 mi (tw_r0 t s i) Q := by
  simp only [tz_2_0, tz_2_1, tz_2_4, tz_2_7, tz_2_8, tz_2_9, tz_2_12, tz_2_15, tz_2_16, tz_60_0, tz_60_1, tz_60_2, tz_60_5, tz_61_0, tz_61_1, tz_61_4, tk_0, tq_0_0, tq_0_1, tq_0_2, tq_0_3, tq_0_4, tq_0_5, tq_0_6, tq_t, tq_s, tk_125, tq_125_0, tw_va_s, tw_va_n, tw_K_s, tw_K_n, and_true, true_and, and_false, false_and, true_or, or_true, not_true_eq_false, not_false_eq_true, ↓reduceIte, Nat.reduceEqDiff, tw_st_ap, hT.2.1]
  exact h _ ⟨by omega, by simp only [tw_st_ap, ↓reduceIte]; rfl, fun j hj => by omega⟩ (fun a ha => by simp only [tw_st_ap, if_neg ha])
end tw_mtape
