/-! the reference's pile: push, make, refuse -/
section tw_mpush
variable {sc : Nat × (Nat → Int32)} {d t s' i n : Nat} {mi mi0 : tw_I} {Q : Option Value → tw_G → tw_I → tw_Q → Prop} {tp : Nat → Nat} {s : tx_S} {W : Int32} {K : tx_K}
set_option maxRecDepth 100000 in
theorem tx_q_node (hM : tx_MR mi0 mi n tp W K s) (hL : s.2.1 < 64) (kd : Nat) {kI a b lo hi : Int32} (hI : kI = nI kd)
    (hQ : ∀ mi', tx_MR mi0 mi' n tp W K (tx_nx kd a b lo hi s) → Q (some (.int (nI s.2.1))) tw_g0 mi' (tw_r0 t s' i)) : tw_E sc d 133 0 [some (.ref 139), some (.int kI), some (.int a), some (.int b), some (.int lo), some (.int hi)] [] tw_g0 mi (tw_r0 t s' i) Q := by
  obtain ⟨⟨f1, f2⟩, ⟨t1, t2, t3⟩, ⟨m1, m2, m3, m4, m5, m6⟩, a1, a2, a3, a4, a5, a6, hK⟩ := hM
  subst hI
  simp only [tz_133_0, tz_133_1, tz_133_4, tz_133_5, tz_133_8, tz_133_9, tz_133_10, tz_133_11, tz_133_14, tz_133_15, tz_133_18, tz_133_19, tz_133_20, tz_133_21, tz_133_24, tz_133_25, tz_133_28, tz_133_29, tz_133_30, tz_133_31, tz_133_34, tz_133_35, tz_133_38, tz_133_40, tz_133_41, tz_133_42, tz_133_45, tz_133_46, tz_133_49, tz_133_51, tz_133_52, tz_133_53, tz_133_54, tz_133_57, tz_133_58, tz_133_59, tz_133_62, tz_133_63, tz_133_66, tz_133_67, tz_133_68, tk_139, tq_139_1, tq_139_6, tq_139_7, tq_139_8, tq_139_9, tq_139_10, tq_139_12, tq_139_13, tq_139_14, tq_139_15, tq_139_16, tq_139_17, tq_139_18, tq_139_19, tq_139_21, tq_139_22, tq_139_24, tq_139_26, tq_139_27, tq_139_28, tq_139_34, tq_139_35, tq_139_36, tq_139_37, tk_146, tj_146, tk_147, tj_147, tk_148, tj_148, tk_149, tj_149, tk_150, tj_150, tw_va_s, tw_va_n, tw_K_s, tw_K_n, and_true, true_and, and_false, false_and, true_or, or_true, not_true_eq_false, not_false_eq_true, ↓reduceIte, Nat.reduceEqDiff, tw_st_ap, a3, nI_clamp (show s.2.1 < 2 ^ 31 by omega), vp_in_nI (show s.2.1 < 64 by omega) (by omega), nI_1, nI_pred]
  refine hQ _ ⟨⟨fun a b1 b2 b3 => ?_, fun z z1 z2 => ?_⟩, ⟨t1, ?_, fun j hj => ?_⟩, ⟨?_, ?_, ?_, fun z => ?_, fun z => ?_, fun z => ?_⟩, ?_, ?_, ?_, fun k hk => ?_, ?_, ?_, tx_KM_of (fun a b1 b2 => ?_) K hK⟩
  · simp only [tw_st_ap, if_neg b1, show ¬ a = 146 by omega, show ¬ a = 147 by omega, show ¬ a = 148 by omega, show ¬ a = 149 by omega, show ¬ a = 150 by omega, ↓reduceIte]
    exact f1 a b1 b2 b3
  · simp only [tw_st_ap, ↓reduceIte, Nat.reduceEqDiff, if_neg z2]
    exact f2 z z1 z2
  · simpa [tw_st_ap] using t2
  · simpa [tw_st_ap] using t3 j hj
  · simpa [tw_st_ap, tx_nx] using m1
  · simpa [tw_st_ap, tx_nx] using m2
  · simpa [tw_st_ap, tx_nx] using m3
  · simpa [tw_st_ap, tx_nx] using m4 z
  · simpa [tw_st_ap, tx_nx] using m5 z
  · simpa [tw_st_ap, tx_nx] using m6 z
  · simpa [tw_st_ap] using a1
  · simpa [tw_st_ap, tx_nx] using a2
  · show _ = nI (s.2.1 + 1)
    simp only [tw_st_ap, ↓reduceIte, Nat.reduceEqDiff]
  · have hk2 : k < s.2.1 + 1 := hk
    show _ = nI (tw_st s.2.2.1 s.2.1 (kd, a, b, lo, hi) k).1 ∧ _ = (tw_st s.2.2.1 s.2.1 (kd, a, b, lo, hi) k).2.1 ∧ _ = (tw_st s.2.2.1 s.2.1 (kd, a, b, lo, hi) k).2.2.1 ∧ _ = (tw_st s.2.2.1 s.2.1 (kd, a, b, lo, hi) k).2.2.2.1 ∧ _ = (tw_st s.2.2.1 s.2.1 (kd, a, b, lo, hi) k).2.2.2.2
    by_cases e : k = s.2.1
    · subst e
      rw [tw_st_s]
      simp only [tw_st_ap, ↓reduceIte, Nat.reduceEqDiff, and_self]
    · rw [tw_st_n s.2.2.1 _ e]
      simp only [tw_st_ap, ↓reduceIte, Nat.reduceEqDiff, if_neg e]
      exact a4 k (by omega)
  · simpa [tw_st_ap] using a5
  · simpa [tw_st_ap] using a6
  · simp only [tw_st_ap, show ¬ a = 139 by omega, show ¬ a = 146 by omega, show ¬ a = 147 by omega, show ¬ a = 148 by omega, show ¬ a = 149 by omega, show ¬ a = 150 by omega, ↓reduceIte]
set_option maxRecDepth 100000 in
theorem tx_q_push (hM : tx_MR mi0 mi n tp W K s) (hL : K.length < 64) (w : Nat) (hw : w ≤ 5) {wI a lo hi : Int32} (hI : wI = nI w)
    (hQ : ∀ mi', tx_MR mi0 mi' n tp W ((w, a, lo, hi) :: K) s → Q none tw_g0 mi' (tw_r0 t s' i)) : tw_E sc d 134 0 [some (.ref 139), some (.int wI), some (.int a), some (.int lo), some (.int hi)] [] tw_g0 mi (tw_r0 t s' i) Q := by
  obtain ⟨⟨f1, f2⟩, ⟨t1, t2, t3⟩, ⟨m1, m2, m3, m4, m5, m6⟩, a1, a2, a3, a4, a5, a6, hK⟩ := hM
  subst hI
  have hd := tx_dp_le K
  -- what the state is then, whatever deep is added
  have key : ∀ x : Nat, x = (if w < 3 then 1 else 0) → Q none tw_g0 (tw_st (tw_st (tw_st (tw_st (tw_st mi 160 (tw_st (mi 160) K.length (nI w))) 161 (tw_st (mi 161) K.length a)) 162 (tw_st (mi 162) K.length lo)) 163 (tw_st (mi 163) K.length hi)) 139 (tw_st (tw_st (mi 139) 33 (nI (K.length + 1))) 38 (nI (tx_dp K + x)))) (tw_r0 t s' i) := by
    intro x hx
    refine hQ _ ⟨⟨fun a b1 b2 b3 => ?_, fun z z1 z2 => ?_⟩, ⟨t1, ?_, fun j hj => ?_⟩, ⟨?_, ?_, ?_, fun z => ?_, fun z => ?_, fun z => ?_⟩, ?_, ?_, ?_, ?_, ?_, ?_, ?_, ?_, ?_, ?_, hw, tx_KM_up K.length (fun a b1 b2 j hj => ?_) K (Nat.le_refl _) hK⟩
    · simp only [tw_st_ap, if_neg b1, show ¬ a = 160 by omega, show ¬ a = 161 by omega, show ¬ a = 162 by omega, show ¬ a = 163 by omega, ↓reduceIte]
      exact f1 a b1 b2 b3
    · simp only [tw_st_ap, ↓reduceIte, Nat.reduceEqDiff, show ¬ z = 33 by omega, show ¬ z = 38 by omega]
      exact f2 z z1 z2
    · simpa [tw_st_ap] using t2
    · simpa [tw_st_ap] using t3 j hj
    · simpa [tw_st_ap] using m1
    · simpa [tw_st_ap] using m2
    · simpa [tw_st_ap] using m3
    · simpa [tw_st_ap] using m4 z
    · simpa [tw_st_ap] using m5 z
    · simpa [tw_st_ap] using m6 z
    · simpa [tw_st_ap] using a1
    · simpa [tw_st_ap] using a2
    · simpa [tw_st_ap] using a3
    · rw [tw_st_n _ _ (by decide), tw_st_n _ _ (by decide), tw_st_n _ _ (by decide), tw_st_n _ _ (by decide), tw_st_n _ _ (by decide), tw_st_n _ _ (by decide), tw_st_n _ _ (by decide), tw_st_n _ _ (by decide), tw_st_n _ _ (by decide), tw_st_n _ _ (by decide), tw_st_n _ _ (by decide), tw_st_n _ _ (by decide), tw_st_n _ _ (by decide), tw_st_n _ _ (by decide), tw_st_n _ _ (by decide), tw_st_n _ _ (by decide), tw_st_n _ _ (by decide), tw_st_n _ _ (by decide), tw_st_n _ _ (by decide), tw_st_n _ _ (by decide), tw_st_n _ _ (by decide), tw_st_n _ _ (by decide), tw_st_n _ _ (by decide), tw_st_n _ _ (by decide), tw_st_n _ _ (by decide)]
      exact a4
    · simp only [tw_st_ap, ↓reduceIte, Nat.reduceEqDiff, List.length_cons]
    · simp only [tw_st_ap, ↓reduceIte, Nat.reduceEqDiff, tx_dp, hx]
      rw [Nat.add_comm]
    · simp only [tw_st_ap, ↓reduceIte, Nat.reduceEqDiff]
    · simp only [tw_st_ap, ↓reduceIte, Nat.reduceEqDiff]
    · simp only [tw_st_ap, ↓reduceIte, Nat.reduceEqDiff]
    · simp only [tw_st_ap, ↓reduceIte, Nat.reduceEqDiff]
    · have e : ¬ j = K.length := by omega
      rcases (show a = 160 ∨ a = 161 ∨ a = 162 ∨ a = 163 by omega) with rfl | rfl | rfl | rfl <;> simp only [tw_st_ap, ↓reduceIte, Nat.reduceEqDiff, if_neg e]
  by_cases h3 : w < 3
  · have c : ¬ (3 : Int32) ≤ nI w := nI_ge (b := 3) h3 (by omega)
    simp only [tz_134_0, tz_134_1, tz_134_4, tz_134_5, tz_134_8, tz_134_9, tz_134_10, tz_134_11, tz_134_14, tz_134_15, tz_134_18, tz_134_19, tz_134_20, tz_134_21, tz_134_24, tz_134_25, tz_134_28, tz_134_29, tz_134_30, tz_134_31, tz_134_34, tz_134_35, tz_134_38, tz_134_40, tz_134_41, tz_134_42, tz_134_43, tz_134_46, tz_134_47, tz_134_48, tz_134_51, tz_134_52, tz_134_53, tz_134_56, tz_134_57, tz_134_58, tz_134_61, tz_134_62, tz_134_65, tz_134_66, tz_134_67, tz_134_70, tk_139, tq_139_1, tq_139_6, tq_139_7, tq_139_8, tq_139_9, tq_139_10, tq_139_12, tq_139_13, tq_139_14, tq_139_15, tq_139_16, tq_139_17, tq_139_18, tq_139_19, tq_139_21, tq_139_22, tq_139_24, tq_139_26, tq_139_27, tq_139_28, tq_139_34, tq_139_35, tq_139_36, tq_139_37, tk_160, tj_160, tk_161, tj_161, tk_162, tj_162, tk_163, tj_163, tw_va_s, tw_va_n, tw_K_s, tw_K_n, and_true, true_and, and_false, false_and, true_or, or_true, not_true_eq_false, not_false_eq_true, ↓reduceIte, Nat.reduceEqDiff, tw_st_ap, a5, a6, c, nI_clamp (show K.length < 2 ^ 31 by omega), vp_in_nI (show K.length < 64 by omega) (by omega), nI_1]
    have z := key 1 (by rw [if_pos h3])
    rw [tw_st_st]
    exact z
  · have c : (3 : Int32) ≤ nI w := nI_le (a := 3) (by omega) (by omega)
    have e0 : nI (tx_dp K) + 0 = nI (tx_dp K + 0) := by rw [tl0, nI_add]
    simp only [tz_134_0, tz_134_1, tz_134_4, tz_134_5, tz_134_8, tz_134_9, tz_134_10, tz_134_11, tz_134_14, tz_134_15, tz_134_18, tz_134_19, tz_134_20, tz_134_21, tz_134_24, tz_134_25, tz_134_28, tz_134_29, tz_134_30, tz_134_31, tz_134_34, tz_134_35, tz_134_38, tz_134_40, tz_134_41, tz_134_42, tz_134_43, tz_134_46, tz_134_47, tz_134_48, tz_134_51, tz_134_52, tz_134_53, tz_134_56, tz_134_57, tz_134_58, tz_134_61, tz_134_62, tz_134_65, tz_134_66, tz_134_67, tz_134_70, tk_139, tq_139_1, tq_139_6, tq_139_7, tq_139_8, tq_139_9, tq_139_10, tq_139_12, tq_139_13, tq_139_14, tq_139_15, tq_139_16, tq_139_17, tq_139_18, tq_139_19, tq_139_21, tq_139_22, tq_139_24, tq_139_26, tq_139_27, tq_139_28, tq_139_34, tq_139_35, tq_139_36, tq_139_37, tk_160, tj_160, tk_161, tj_161, tk_162, tj_162, tk_163, tj_163, tw_va_s, tw_va_n, tw_K_s, tw_K_n, and_true, true_and, and_false, false_and, true_or, or_true, not_true_eq_false, not_false_eq_true, ↓reduceIte, Nat.reduceEqDiff, tw_st_ap, a5, a6, c, nI_clamp (show K.length < 2 ^ 31 by omega), vp_in_nI (show K.length < 64 by omega) (by omega), nI_1, e0]
    have z := key 0 (by rw [if_neg h3])
    rw [tw_st_st]
    exact z
/-- it is refused at e: what is left of the state -/
def tx_MW (mi0 mi : tw_I) (e : Nat) : Prop := tx_MF mi0 mi ∧ mi 139 39 = nI e
set_option maxRecDepth 100000 in
theorem tx_MW_of (hM : tx_MR mi0 mi n tp W K s) {e : Nat} (hW : W = nI e) : tx_MW mi0 mi e := ⟨hM.1, by rw [hM.2.2.2.1, hW]⟩
set_option maxRecDepth 100000 in
theorem tx_MR_W {W' : Int32} (hM : tx_MR mi0 mi n tp W K s) : tx_MR mi0 (tw_st mi 139 (tw_st (mi 139) 39 W')) n tp W' K s := by
  obtain ⟨⟨f1, f2⟩, ⟨t1, t2, t3⟩, ⟨m1, m2, m3, m4, m5, m6⟩, a1, a2, a3, a4, a5, a6, hK⟩ := hM
  have e : ∀ z, z ≠ 39 → tw_st mi 139 (tw_st (mi 139) 39 W') 139 z = mi 139 z := fun z hz => by rw [tw_st_s, tw_st_n _ _ hz]
  have fr : ∀ a, a ≠ 139 → tw_st mi 139 (tw_st (mi 139) 39 W') a = mi a := fun a h => tw_st_n _ _ h
  refine ⟨⟨fun a b1 b2 b3 => by rw [fr a b1]; exact f1 a b1 b2 b3, fun z z1 z2 => by rw [e z (by omega)]; exact f2 z z1 z2⟩, ⟨t1, by rw [e 2 (by decide)]; exact t2, by rw [fr 140 (by decide)]; exact t3⟩, ⟨by rw [e 31 (by decide)]; exact m1, by rw [e 29 (by decide)]; exact m2, by rw [e 30 (by decide)]; exact m3, by rw [e 32 (by decide)]; exact m4, by rw [e 32 (by decide)]; exact m5, by rw [e 32 (by decide)]; exact m6⟩, by rw [tw_st_s, tw_st_s], by rw [e 40 (by decide)]; exact a2, by rw [e 11 (by decide)]; exact a3, ?_, by rw [e 33 (by decide)]; exact a5, by rw [e 38 (by decide)]; exact a6, tx_KM_of (fun a b1 b2 => fr a (by omega)) K hK⟩
  rw [fr 146 (by decide), fr 147 (by decide), fr 148 (by decide), fr 149 (by decide), fr 150 (by decide)]
  exact a4
set_option maxRecDepth 100000 in
/-- another place of a wrong span -/
theorem tx_MR_sp {sp : Int32} (hM : tx_MR mi0 mi n tp W K s) : tx_MR mi0 (tw_st mi 139 (tw_st (mi 139) 40 sp)) n tp W K (s.1, s.2.1, s.2.2.1, sp) := by
  obtain ⟨⟨f1, f2⟩, ⟨t1, t2, t3⟩, ⟨m1, m2, m3, m4, m5, m6⟩, a1, a2, a3, a4, a5, a6, hK⟩ := hM
  have e : ∀ z, z ≠ 40 → tw_st mi 139 (tw_st (mi 139) 40 sp) 139 z = mi 139 z := fun z hz => by rw [tw_st_s, tw_st_n _ _ hz]
  have fr : ∀ a, a ≠ 139 → tw_st mi 139 (tw_st (mi 139) 40 sp) a = mi a := fun a h => tw_st_n _ _ h
  refine ⟨⟨fun a b1 b2 b3 => by rw [fr a b1]; exact f1 a b1 b2 b3, fun z z1 z2 => by rw [e z (by omega)]; exact f2 z z1 z2⟩, ⟨t1, by rw [e 2 (by decide)]; exact t2, by rw [fr 140 (by decide)]; exact t3⟩, ⟨by rw [e 31 (by decide)]; exact m1, by rw [e 29 (by decide)]; exact m2, by rw [e 30 (by decide)]; exact m3, by rw [e 32 (by decide)]; exact m4, by rw [e 32 (by decide)]; exact m5, by rw [e 32 (by decide)]; exact m6⟩, by rw [e 39 (by decide)]; exact a1, by rw [tw_st_s, tw_st_s], by rw [e 11 (by decide)]; exact a3, ?_, by rw [e 33 (by decide)]; exact a5, by rw [e 38 (by decide)]; exact a6, tx_KM_of (fun a b1 b2 => fr a (by omega)) K hK⟩
  rw [fr 146 (by decide), fr 147 (by decide), fr 148 (by decide), fr 149 (by decide), fr 150 (by decide)]
  exact a4
set_option maxRecDepth 100000 in
theorem tx_q_wrong (hM : tx_MR mi0 mi n tp (-9) K s) (hQ : ∀ mi', tx_MR mi0 mi' n tp (nI (tx_pl n tp s.1)) K s → Q none tw_g0 mi' (tw_r0 t s' i)) : tw_E sc d 136 0 [some (.ref 139)] [] tw_g0 mi (tw_r0 t s' i) Q := by
  have h := tx_MR_W (W' := nI (tx_pl n tp s.1)) hM
  obtain ⟨⟨f1, f2⟩, ht, ⟨m1, -⟩, a1, -⟩ := hM
  simp only [tz_136_0, tz_136_1, tz_136_2, tz_136_5, tz_136_7, tz_136_10, tz_136_11, tz_136_14, tz_136_17, tz_136_18, tz_136_21, tz_136_24, tk_139, tq_139_1, tq_139_6, tq_139_7, tq_139_8, tq_139_9, tq_139_10, tq_139_12, tq_139_13, tq_139_14, tq_139_15, tq_139_16, tq_139_17, tq_139_18, tq_139_19, tq_139_21, tq_139_22, tq_139_24, tq_139_26, tq_139_27, tq_139_28, tq_139_34, tq_139_35, tq_139_36, tq_139_37, tw_va_s, tw_va_n, tw_K_s, tw_K_n, and_true, true_and, and_false, false_and, true_or, or_true, not_true_eq_false, not_false_eq_true, ↓reduceIte, Nat.reduceEqDiff, a1, m1]
  exact hQ _ h
end tw_mpush
