/-! tokens: the reference's next -/
section tw_mlex3
variable {sc : Nat × (Nat → Int32)} {d t s i n : Nat} {mi : tw_I} {Q : Option Value → tw_G → tw_I → tw_Q → Prop} {tp : Nat → Nat}
set_option maxRecDepth 100000 in
theorem tw_q_next (hb : ∀ j, j < n → tp j < 256) {p : Nat} (hp : p ≤ n) (hC : tw_Mt mi n tp) (h29 : mi 139 29 = nI p)
    (hQ : ∀ mi', tx_MP mi' n tp p → (∀ a, a ≠ 139 → mi' a = mi a) → (∀ z, z ≠ 29 → z ≠ 30 → z ≠ 31 → z ≠ 32 → mi' 139 z = mi 139 z) → Q none tw_g0 mi' (tw_r0 t s i)) :
    tw_E sc (d + 2) 131 0 [some (.ref 139)] [] tw_g0 mi (tw_r0 t s i) Q := by
  obtain ⟨hn, h2, h140⟩ := hC
  have hl := tx_pl_le (tp := tp) hp
  refine tw_q_skl hn hb 60 p mi (by omega) hp h2 h140 h29 (fun m1 v1 v2 v3 => ?_)
  rw [show tx_sk n tp 60 p = tx_pl n tp p from rfl] at v3
  generalize hq : tx_pl n tp p = q at hl v3
  have et : tx_to n tp p = if q < n then (if tx_isd n tp q then (if tx_rl n tp 60 q - q ≤ 3 ∧ 1 ≤ tx_nc n tp 60 q 0 ∧ tx_nc n tp 60 q 0 ≤ 999 then 256 else 258) else tp q) else 257 := by unfold tx_to tx_nu; rw [hq]
  have ee : tx_en n tp p = if q < n then (if tx_isd n tp q then tx_rl n tp 60 q else q + 1) else q := by unfold tx_en; rw [hq]
  have en : tx_nu n tp p = tx_nc n tp 60 q 0 := by unfold tx_nu; rw [hq]
  have a2 : m1 139 2 = nI n := by rw [v2 2 (by decide)]; exact h2
  have a140 : ∀ j, j < n → m1 140 j = nI (tp j) := by rw [v1 140 (by decide)]; exact h140
  simp only [tz_131_38, tz_131_39, tz_131_40, tz_131_43, tz_131_46, tz_131_47, tz_131_48, tz_131_51, tz_131_52, tz_131_55, tz_131_56, tz_131_59, tk_139, tq_139_1, tq_139_6, tq_139_7, tq_139_8, tq_139_9, tq_139_10, tq_139_12, tq_139_13, tq_139_14, tq_139_15, tq_139_16, tq_139_17, tq_139_18, tq_139_19, tq_139_21, tq_139_22, tq_139_24, tq_139_26, tq_139_27, tq_139_28, tq_139_34, tq_139_35, tq_139_36, tq_139_37, tw_va_s, tw_va_n, tw_K_s, tw_K_n, and_true, true_and, and_false, false_and, true_or, or_true, not_true_eq_false, not_false_eq_true, ↓reduceIte, Nat.reduceEqDiff, v3, a2, tw_st_s, tw_st_st, tw_st_ap, Nat.reduceEqDiff]
  by_cases g : q < n
  · rw [if_pos g] at et ee
    rw [if_pos (show ¬ nI q = nI n from fun z => by rw [nI_eq (by omega) (by omega)] at z; omega)]
    have a140' : ∀ F, ∀ j, j < n → tw_st m1 139 F 140 j = nI (tp j) := fun F => by rw [tw_st_n _ _ (by decide)]; exact a140
    have b2 : tw_st m1 139 (tw_st (tw_st (m1 139) 31 (nI q)) 32 0) 139 2 = nI n := by simp only [tw_st_ap, ↓reduceIte, Nat.reduceEqDiff]; exact a2
    have b29 : tw_st m1 139 (tw_st (tw_st (m1 139) 31 (nI q)) 32 0) 139 29 = nI q := by simp only [tw_st_ap, ↓reduceIte, Nat.reduceEqDiff]; exact v3
    simp only [tz_131_68, tz_131_69, tz_131_70, tz_131_73, tk_139, tq_139_1, tq_139_6, tq_139_7, tq_139_8, tq_139_9, tq_139_10, tq_139_12, tq_139_13, tq_139_14, tq_139_15, tq_139_16, tq_139_17, tq_139_18, tq_139_19, tq_139_21, tq_139_22, tq_139_24, tq_139_26, tq_139_27, tq_139_28, tq_139_34, tq_139_35, tq_139_36, tq_139_37, tw_va_s, tw_va_n, tw_K_s, tw_K_n, and_true, true_and, and_false, false_and, true_or, or_true, not_true_eq_false, not_false_eq_true, ↓reduceIte, Nat.reduceEqDiff, b29, tw_q_isDig hn b2 (a140' _) (show q < 2 ^ 31 by omega) hb]
    by_cases c : tx_isd n tp q = true
    · rw [if_pos c] at et ee
      rw [if_pos c]
      have hrl := tx_rl_le (n := n) (tp := tp) 60 q hl.2
      simp only [tz_131_76, show ¬ (1 : Int32) = 0 by decide, ↓reduceIte]
      refine tw_q_numl hn hb (b := q) 60 q 0 _ (by omega) (Nat.le_refl _) hl.2 b2 (a140' _) b29 ?_ ?_ ?_
      · simp only [tw_st_ap, ↓reduceIte, Nat.reduceEqDiff]
      · simp only [tw_st_ap, ↓reduceIte, Nat.reduceEqDiff, nI_0]
      · intro mi' w1 w2 w3 w4
        have w5 : mi' 139 31 = nI q := by rw [w2 31 (by decide) (by decide)]; simp only [tw_st_ap, ↓reduceIte, Nat.reduceEqDiff]
        have e5 : nI (tx_rl n tp 60 q) - nI q = nI (tx_rl n tp 60 q - q) := pk_sub hrl.1
        have fin : ∀ so, so = tx_so (tx_to n tp p) → (so = 1 → tx_nm n tp q 60 q 0 = tx_nu n tp p) → ¬ so = 2 → ¬ so = 3 → Q none tw_g0 (tw_st mi' 139 (tw_st (mi' 139) 30 (nI so))) (tw_r0 t s i) := by
          intro so eso e1 n2 n3
          subst eso
          refine hQ _ ⟨?_, ?_, ?_, fun z => ?_, fun z => absurd z n2, fun z => absurd z n3⟩ (fun a ha => by rw [tw_st_n _ _ ha, w1 a ha, tw_st_n _ _ ha, v1 a ha]) (fun z z1 z2 z3 z4 => ?_)
          · rw [tw_st_s, tw_st_n _ _ (by decide), w5, hq]
          · rw [tw_st_s, tw_st_n _ _ (by decide), w3, ee]
          · rw [tw_st_s, tw_st_s]
          · rw [tw_st_s, tw_st_n _ _ (by decide), w4, e1 z]
          · rw [tw_st_s, tw_st_n _ _ z2, w2 z z1 z4]
            simp only [tw_st_ap, ↓reduceIte, if_neg z4, if_neg z3]
            exact v2 z z1
        simp only [tz_131_147, tz_131_148, tz_131_149, tz_131_152, tz_131_153, tz_131_156, tz_131_157, tz_131_158, tk_139, tq_139_1, tq_139_6, tq_139_7, tq_139_8, tq_139_9, tq_139_10, tq_139_12, tq_139_13, tq_139_14, tq_139_15, tq_139_16, tq_139_17, tq_139_18, tq_139_19, tq_139_21, tq_139_22, tq_139_24, tq_139_26, tq_139_27, tq_139_28, tq_139_34, tq_139_35, tq_139_36, tq_139_37, tw_va_s, tw_va_n, tw_K_s, tw_K_n, and_true, true_and, and_false, false_and, true_or, or_true, not_true_eq_false, not_false_eq_true, ↓reduceIte, Nat.reduceEqDiff, w3, w5, e5]
        by_cases g3 : tx_rl n tp 60 q - q ≤ 3
        · have k3 : ¬ (3 : Int32) < nI (tx_rl n tp 60 q - q) := nI_nlt (a := 3) g3 (by omega)
          obtain ⟨em, em2⟩ := tx_nm_nc (n := n) (tp := tp) q 60 q 0 (Nat.le_refl _) g3 hl.2 (by simp)
          rw [if_neg k3]
          simp only [tz_131_161, tz_131_162, tz_131_165, tk_139, tq_139_1, tq_139_6, tq_139_7, tq_139_8, tq_139_9, tq_139_10, tq_139_12, tq_139_13, tq_139_14, tq_139_15, tq_139_16, tq_139_17, tq_139_18, tq_139_19, tq_139_21, tq_139_22, tq_139_24, tq_139_26, tq_139_27, tq_139_28, tq_139_34, tq_139_35, tq_139_36, tq_139_37, tw_va_s, tw_va_n, tw_K_s, tw_K_n, and_true, true_and, and_false, false_and, true_or, or_true, not_true_eq_false, not_false_eq_true, ↓reduceIte, Nat.reduceEqDiff, w4, em]
          by_cases g0 : tx_nc n tp 60 q 0 = 0
          · have e6 : tx_to n tp p = 258 := by rw [et, if_neg (by omega)]
            rw [if_neg (by rw [g0]; decide)]
            simp only [tz_131_168, tz_131_169, tz_131_173, tz_131_176, tk_139, tq_139_1, tq_139_6, tq_139_7, tq_139_8, tq_139_9, tq_139_10, tq_139_12, tq_139_13, tq_139_14, tq_139_15, tq_139_16, tq_139_17, tq_139_18, tq_139_19, tq_139_21, tq_139_22, tq_139_24, tq_139_26, tq_139_27, tq_139_28, tq_139_34, tq_139_35, tq_139_36, tq_139_37, tw_va_s, tw_va_n, tw_K_s, tw_K_n, and_true, true_and, and_false, false_and, true_or, or_true, not_true_eq_false, not_false_eq_true, ↓reduceIte, Nat.reduceEqDiff]
            exact fin 4 (by rw [e6]; rfl) (fun z => absurd z (by decide)) (by decide) (by decide)
          · have e6 : tx_to n tp p = 256 := by rw [et, if_pos ⟨g3, by omega, em2⟩]
            rw [if_pos (nI_ne0 (by omega) (by omega))]
            simp only [tz_131_172, tz_131_173, tz_131_176, tk_139, tq_139_1, tq_139_6, tq_139_7, tq_139_8, tq_139_9, tq_139_10, tq_139_12, tq_139_13, tq_139_14, tq_139_15, tq_139_16, tq_139_17, tq_139_18, tq_139_19, tq_139_21, tq_139_22, tq_139_24, tq_139_26, tq_139_27, tq_139_28, tq_139_34, tq_139_35, tq_139_36, tq_139_37, tw_va_s, tw_va_n, tw_K_s, tw_K_n, and_true, true_and, and_false, false_and, true_or, or_true, not_true_eq_false, not_false_eq_true, ↓reduceIte, Nat.reduceEqDiff]
            exact fin 1 (by rw [e6]; rfl) (fun _ => by rw [em, en]) (by decide) (by decide)
        · have k3 : (3 : Int32) < nI (tx_rl n tp 60 q - q) := nI_lt (a := 3) (by omega) (by omega)
          have e6 : tx_to n tp p = 258 := by rw [et, if_neg (fun z => g3 z.1)]
          rw [if_pos k3]
          simp only [tz_131_168, tz_131_169, tz_131_173, tz_131_176, tk_139, tq_139_1, tq_139_6, tq_139_7, tq_139_8, tq_139_9, tq_139_10, tq_139_12, tq_139_13, tq_139_14, tq_139_15, tq_139_16, tq_139_17, tq_139_18, tq_139_19, tq_139_21, tq_139_22, tq_139_24, tq_139_26, tq_139_27, tq_139_28, tq_139_34, tq_139_35, tq_139_36, tq_139_37, tw_va_s, tw_va_n, tw_K_s, tw_K_n, and_true, true_and, and_false, false_and, true_or, or_true, not_true_eq_false, not_false_eq_true, ↓reduceIte, Nat.reduceEqDiff]
          exact fin 4 (by rw [e6]; rfl) (fun z => absurd z (by decide)) (by decide) (by decide)
    · rw [if_neg c] at et ee
      rw [if_neg c]
      have h256 := hb q g
      have fin : ∀ so va, so = tx_so (tx_to n tp p) → (so = 2 → va = tp q - 97) → (so = 3 → va = tp q) → ∀ mi' : tw_I, (∀ a, a ≠ 139 → mi' a = m1 a) → (∀ z, z ≠ 29 → z ≠ 30 → z ≠ 31 → z ≠ 32 → mi' 139 z = m1 139 z) → mi' 139 31 = nI q → mi' 139 29 = nI (q + 1) → mi' 139 30 = nI so → mi' 139 32 = nI va → Q none tw_g0 mi' (tw_r0 t s i) := by
        intro so va eso e2 e3 mi' f1 f2 f31 f29 f30 f32
        have n1 : ¬ so = 1 := by
          rw [eso, et]
          unfold tx_so
          split
          · omega
          · rw [if_neg (by omega), if_neg (by omega)]
            split
            · omega
            · split <;> omega
        refine hQ _ ⟨by rw [f31, hq], by rw [f29, ee], by rw [f30, eso], fun z => absurd (eso.trans z) n1, fun z => by rw [f32, e2 (eso.trans z), et], fun z => by rw [f32, e3 (eso.trans z), et]⟩ (fun a ha => by rw [f1 a ha, v1 a ha]) (fun z z1 z2 z3 z4 => by rw [f2 z z1 z2 z3 z4, v2 z z1])
      have hc97 : ((97 : Int32) ≤ nI (tp q) ∧ nI (tp q) ≤ 112) = (97 ≤ tp q ∧ tp q ≤ 112) := by
        rw [tl97, tl112, propext (nI_leI (a := 97) (b := tp q) (by omega) (by omega)), propext (nI_leI (a := tp q) (b := 112) (by omega) (by omega))]
      simp only [tz_131_76, tz_131_177, tz_131_178, tz_131_179, tz_131_182, tz_131_183, tz_131_186, tz_131_187, tz_131_190, tz_131_191, tz_131_192, tz_131_195, tz_131_196, tz_131_197, tz_131_200, tz_131_201, tz_131_202, tz_131_205, tz_131_206, tz_131_209, tz_131_212, tz_131_215, tk_139, tq_139_1, tq_139_6, tq_139_7, tq_139_8, tq_139_9, tq_139_10, tq_139_12, tq_139_13, tq_139_14, tq_139_15, tq_139_16, tq_139_17, tq_139_18, tq_139_19, tq_139_21, tq_139_22, tq_139_24, tq_139_26, tq_139_27, tq_139_28, tq_139_34, tq_139_35, tq_139_36, tq_139_37, tk_140, tj_140, tw_va_s, tw_va_n, tw_K_s, tw_K_n, and_true, true_and, and_false, false_and, true_or, or_true, not_true_eq_false, not_false_eq_true, ↓reduceIte, Nat.reduceEqDiff, b29, a140' _ q g, nI_clamp (show q < 2 ^ 31 by omega), vp_in_nI (show q < 60 by omega) (by omega), tw_st_s, tw_st_st, tw_st_ap, Nat.reduceEqDiff, v3, nI_1, tw_L97, tw_L112, tw_q_in, a140 q g, hc97]
      by_cases w : 97 ≤ tp q ∧ tp q ≤ 112
      · have e2 : tx_so (tx_to n tp p) = 2 := by
          rw [et]
          unfold tx_so
          rw [if_neg (by omega), if_neg (by omega), if_neg (by omega), if_pos w]
        simp only [w, and_self, ↓reduceIte, show ¬ (1 : Int32) = 0 by decide, tz_131_218, tz_131_219, tz_131_237, tz_131_240, tz_131_241, tz_131_242, tz_131_245, tz_131_246, tz_131_249, tz_131_250, tz_131_253, tz_131_255, tz_131_256, tz_131_263, tz_131_266, tk_139, tq_139_1, tq_139_6, tq_139_7, tq_139_8, tq_139_9, tq_139_10, tq_139_12, tq_139_13, tq_139_14, tq_139_15, tq_139_16, tq_139_17, tq_139_18, tq_139_19, tq_139_21, tq_139_22, tq_139_24, tq_139_26, tq_139_27, tq_139_28, tq_139_34, tq_139_35, tq_139_36, tq_139_37, tw_va_s, tw_va_n, tw_K_s, tw_K_n, and_true, true_and, and_false, false_and, true_or, or_true, not_true_eq_false, not_false_eq_true, ↓reduceIte, Nat.reduceEqDiff, tw_st_s, tw_st_st, tw_st_ap, Nat.reduceEqDiff, not_true_eq_false]
        have e97 : nI (tp q) - 97 = nI (tp q - 97) := pk_sub (b := 97) w.1
        exact fin 2 (tp q - 97) e2.symm (fun _ => rfl) (fun z => absurd z (by decide)) _ (fun a ha => tw_st_n _ _ ha) (fun z z1 z2 z3 z4 => by simp only [tw_st_ap, ↓reduceIte, if_neg z1, if_neg z2, if_neg z3, if_neg z4]) (by simp [tw_st_ap]) (by simp [tw_st_ap]) (by simp [tw_st_ap]; rfl) (by simp [tw_st_ap, e97])
      · simp only [w, ↓reduceIte, tz_131_222, tz_131_223, tz_131_226, tz_131_229, tk_139, tq_139_1, tq_139_6, tq_139_7, tq_139_8, tq_139_9, tq_139_10, tq_139_12, tq_139_13, tq_139_14, tq_139_15, tq_139_16, tq_139_17, tq_139_18, tq_139_19, tq_139_21, tq_139_22, tq_139_24, tq_139_26, tq_139_27, tq_139_28, tq_139_34, tq_139_35, tq_139_36, tq_139_37, tw_va_s, tw_va_n, tw_K_s, tw_K_n, and_true, true_and, and_false, false_and, true_or, or_true, not_true_eq_false, not_false_eq_true, ↓reduceIte, Nat.reduceEqDiff, tw_st_s, tw_st_st, tw_st_ap, Nat.reduceEqDiff, tw_q_signB h256]
        by_cases sg : tx_sg (tp q) = true
        · have e3 : tx_so (tx_to n tp p) = 3 := by
            rw [et]
            unfold tx_so
            rw [if_neg (by omega), if_neg (by omega), if_neg (by omega), if_neg w, if_pos sg]
          simp only [sg, ↓reduceIte, show ¬ (1 : Int32) = 0 by decide, show ¬ (3 : Int32) = 2 by decide, tz_131_232, tz_131_233, tz_131_237, tz_131_240, tz_131_241, tz_131_242, tz_131_245, tz_131_246, tz_131_259, tz_131_260, tz_131_263, tz_131_266, tk_139, tq_139_1, tq_139_6, tq_139_7, tq_139_8, tq_139_9, tq_139_10, tq_139_12, tq_139_13, tq_139_14, tq_139_15, tq_139_16, tq_139_17, tq_139_18, tq_139_19, tq_139_21, tq_139_22, tq_139_24, tq_139_26, tq_139_27, tq_139_28, tq_139_34, tq_139_35, tq_139_36, tq_139_37, tw_va_s, tw_va_n, tw_K_s, tw_K_n, and_true, true_and, and_false, false_and, true_or, or_true, not_true_eq_false, not_false_eq_true, ↓reduceIte, Nat.reduceEqDiff, tw_st_s, tw_st_st, tw_st_ap, Nat.reduceEqDiff, not_false_eq_true]
          exact fin 3 (tp q) e3.symm (fun z => absurd z (by decide)) (fun _ => rfl) _ (fun a ha => tw_st_n _ _ ha) (fun z z1 z2 z3 z4 => by simp only [tw_st_ap, ↓reduceIte, if_neg z1, if_neg z2, if_neg z3, if_neg z4]) (by simp [tw_st_ap]) (by simp [tw_st_ap]) (by simp [tw_st_ap]; rfl) (by simp [tw_st_ap])
        · have e3 : tx_so (tx_to n tp p) = 4 := by
            rw [et]
            unfold tx_so
            rw [if_neg (by omega), if_neg (by omega), if_neg (by omega), if_neg w, if_neg sg]
          simp only [sg, ↓reduceIte, Bool.false_eq_true, show ¬ (4 : Int32) = 2 by decide, tz_131_236, tz_131_237, tz_131_240, tz_131_241, tz_131_242, tz_131_245, tz_131_246, tz_131_259, tz_131_260, tz_131_263, tz_131_266, tk_139, tq_139_1, tq_139_6, tq_139_7, tq_139_8, tq_139_9, tq_139_10, tq_139_12, tq_139_13, tq_139_14, tq_139_15, tq_139_16, tq_139_17, tq_139_18, tq_139_19, tq_139_21, tq_139_22, tq_139_24, tq_139_26, tq_139_27, tq_139_28, tq_139_34, tq_139_35, tq_139_36, tq_139_37, tw_va_s, tw_va_n, tw_K_s, tw_K_n, and_true, true_and, and_false, false_and, true_or, or_true, not_true_eq_false, not_false_eq_true, ↓reduceIte, Nat.reduceEqDiff, tw_st_s, tw_st_st, tw_st_ap, Nat.reduceEqDiff, not_false_eq_true]
          exact fin 4 (tp q) e3.symm (fun z => absurd z (by decide)) (fun z => absurd z (by decide)) _ (fun a ha => tw_st_n _ _ ha) (fun z z1 z2 z3 z4 => by simp only [tw_st_ap, ↓reduceIte, if_neg z1, if_neg z2, if_neg z3, if_neg z4]) (by simp [tw_st_ap]) (by simp [tw_st_ap]) (by simp [tw_st_ap]; rfl) (by simp [tw_st_ap])
  · rw [if_neg g] at et ee
    have e6 : q = n := by omega
    rw [if_neg (fun z => z (by rw [e6]))]
    simp only [tz_131_62, tz_131_63, tz_131_64, tz_131_67, tk_139, tq_139_1, tq_139_6, tq_139_7, tq_139_8, tq_139_9, tq_139_10, tq_139_12, tq_139_13, tq_139_14, tq_139_15, tq_139_16, tq_139_17, tq_139_18, tq_139_19, tq_139_21, tq_139_22, tq_139_24, tq_139_26, tq_139_27, tq_139_28, tq_139_34, tq_139_35, tq_139_36, tq_139_37, tw_va_s, tw_va_n, tw_K_s, tw_K_n, and_true, true_and, and_false, false_and, true_or, or_true, not_true_eq_false, not_false_eq_true, ↓reduceIte, Nat.reduceEqDiff, tw_st_s, tw_st_st]
    refine hQ _ ⟨?_, ?_, ?_, fun z => ?_, fun z => ?_, fun z => ?_⟩ (fun a ha => by rw [tw_st_n _ _ ha, v1 a ha]) (fun z z1 z2 z3 z4 => ?_)
    · simp only [tw_st_ap, ↓reduceIte, Nat.reduceEqDiff, hq]
    · simp only [tw_st_ap, ↓reduceIte, Nat.reduceEqDiff, ee]; exact v3
    · simp only [tw_st_ap, ↓reduceIte, Nat.reduceEqDiff, et]; rfl
    · rw [et] at z; exact absurd z (by decide)
    · rw [et] at z; exact absurd z (by decide)
    · rw [et] at z; exact absurd z (by decide)
    · simp only [tw_st_ap, ↓reduceIte, if_neg z1, if_neg z2, if_neg z3, if_neg z4]
      exact v2 z z1
end tw_mlex3
