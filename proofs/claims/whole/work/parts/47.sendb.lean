/-! sendByte -/
def tw_ls (pg : Nat → tw_Nd) (N : Nat) : List Int32 → tw_Hs → Int32 → tw_Hs × Int32
  | [], S, h => (S, h)
  | x :: l, S, h => tw_ls pg N l (tw_cm pg N x S) (h + tw_cr pg N x S)
set_option maxRecDepth 100000 in
theorem tw_ls_h (pg : Nat → tw_Nd) (N : Nat) : ∀ l (S : tw_Hs) (h : Int32), tw_ls pg N l S h = ((tw_ls pg N l S 0).1, h + (tw_ls pg N l S 0).2) := by
  intro l
  induction l with
  | nil => intro S h; simp [tw_ls]
  | cons x l ih =>
    intro S h
    simp only [tw_ls]
    rw [ih, ih (tw_cm pg N x S) (0 + tw_cr pg N x S)]
    simp [Int32.add_assoc]
set_option maxRecDepth 100000 in
theorem tw_ls_T (pg : Nat → tw_Nd) (N : Nat) : ∀ l (S : tw_Hs) (h : Int32), (tw_ls pg N l S h).1.1 = S.1 + l.length := by
  intro l
  induction l with
  | nil => intro S h; rfl
  | cons x l ih =>
    intro S h
    simp only [tw_ls, List.length_cons]
    rw [ih]
    show S.1 + 1 + l.length = _
    omega
def tw_if3 (pg : Nat → tw_Nd) (N : Nat) (z : Int32) (l : List Int32) (S : tw_Hs) (h : Int32) : tw_Hs × Int32 := if z = 0 then (S, h) else tw_ls pg N l S h
def tw_bv (o d b : Int32) (j : Nat) : Int32 := if tw_bt b (nI j) = 1 then o ||| d else o
/-- bits j - 1 .. 0 of b -/
def tw_bls (pg : Nat → tw_Nd) (N : Nat) (o c d b : Int32) : Nat → tw_Hs → Int32 → tw_Hs × Int32
  | 0, S, h => (S, h)
  | j + 1, S, h => tw_bls pg N o c d b j (tw_ls pg N [tw_bv o d b j, tw_bv o d b j ||| c, tw_bv o d b j] S h).1 (tw_ls pg N [tw_bv o d b j, tw_bv o d b j ||| c, tw_bv o d b j] S h).2
def tw_bend (pg : Nat → tw_Nd) (N : Nat) (o c d b sp : Int32) (j : Nat) (S : tw_Hs) (h : Int32) : tw_Hs × Int32 :=
  tw_if3 pg N sp [o, o ||| c, o ||| c ||| d] (tw_bls pg N o c d b j S h).1 (tw_bls pg N o c d b j S h).2
def tw_bst (pg : Nat → tw_Nd) (N : Nat) (o c d b st sp : Int32) (S : tw_Hs) : tw_Hs × Int32 :=
  tw_bend pg N o c d b sp 8 (tw_if3 pg N st [o ||| c ||| d, o ||| c, o] S 0).1 (tw_if3 pg N st [o ||| c ||| d, o ||| c, o] S 0).2
def tw_n3 (z : Int32) : Nat := if z = 0 then 0 else 3
def tw_sdb (N : Nat) (pg : Nat → tw_Nd) (S : tw_Hs) (ck da b st sp : Int32) : tw_Hs × Int32 :=
  if (0 ≤ ck ∧ ck ≤ 15) ∧ (0 ≤ da ∧ da ≤ 15) then (if ¬ ck = da ∧ (0 ≤ b ∧ b ≤ 255) then (if tw_rfu N S (24 + tw_n3 st + tw_n3 sp) = 0 then tw_bst pg N (tw_oth S ((1 : Int32) <<< (ck &&& 31) ||| (1 : Int32) <<< (da &&& 31))) ((1 : Int32) <<< (ck &&& 31)) ((1 : Int32) <<< (da &&& 31)) b st sp S else (S, tw_rfu N S (24 + tw_n3 st + tw_n3 sp))) else (S, -2)) else (S, -1)
set_option maxRecDepth 100000 in
theorem tw_n3_e (z : Int32) : (if z = 0 then (0 : Int32) else 3) = nI (tw_n3 z) := by unfold tw_n3; by_cases h : z = 0 <;> simp [h] <;> rfl
set_option maxRecDepth 100000 in
theorem tw_n3_le (z : Int32) : tw_n3 z ≤ 3 := by unfold tw_n3; split <;> omega
set_option maxRecDepth 100000 in
theorem tw_w15 (wi : Int32) : (16 : Int32) ≤ wi ↔ ¬ wi ≤ 15 := by
  rw [Int32.le_iff_toInt_le, Int32.le_iff_toInt_le]
  have a : (16 : Int32).toInt = 16 := rfl
  have b : (15 : Int32).toInt = 15 := rfl
  omega
section tw_sendb
variable {sc : Nat × (Nat → Int32)} {d t s i N k T : Nat} {mi : tw_I} {Q : Option Value → tw_G → tw_I → tw_Q → Prop} {pg : Nat → tw_Nd} {dy : tw_Dy} {S : tw_Hs}
set_option maxRecDepth 100000 in
theorem tw_p_three (ht : t = 1 ∨ t = 63) (hv : tw_pv N pg) (hN : 1 ≤ N) {x y z : Int32} (hx : tw_16 x) (hy : tw_16 y) (hz : tw_16 z) (hC : tw_CS mi t N pg S) (hS : tw_Sv S) (hT : S.1 + 3 ≤ 4000)
    (hQ : ∀ mi', tw_CS mi' t N pg (tw_ls pg N [x, y, z] S 0).1 → tw_Sv (tw_ls pg N [x, y, z] S 0).1 → (∀ a, (a < t + 2 ∨ t + 2 + N ≤ a) → a ≠ 128 → a ≠ 129 → a ≠ 130 → mi' a = mi a) → Q (some (.int (tw_ls pg N [x, y, z] S 0).2)) tw_g0 mi' (tw_r0 t s i)) :
    tw_E sc (d + 6) 29 0 [some (.ref 0), some (.int x), some (.int y), some (.int z)] [] tw_g0 mi (tw_r0 t s i) Q := by
  simp only [tz_29_0, tz_29_1, tz_29_2, tz_29_3, tz_29_6, tz_29_7, tz_29_8, tz_29_9, tz_29_12, tz_29_13, tz_29_14, tz_29_15, tz_29_16, tz_29_19, tz_29_20, tk_0, tq_0_0, tq_0_1, tq_0_2, tq_0_3, tq_0_4, tq_0_5, tq_0_6, tq_t, tq_s, tw_va_s, tw_va_n, tw_K_s, tw_K_n, and_true, true_and, and_false, false_and, true_or, or_true, not_true_eq_false, not_false_eq_true, ↓reduceIte, Nat.reduceEqDiff, show (1 : Int32) = nI 1 from rfl]
  refine tw_p_take ht hv hN hx 1 (by omega) hC hS (by omega) (fun m1 a1 a2 a3 => ?_)
  simp only [tz_29_0, tz_29_1, tz_29_2, tz_29_3, tz_29_6, tz_29_7, tz_29_8, tz_29_9, tz_29_12, tz_29_13, tz_29_14, tz_29_15, tz_29_16, tz_29_19, tz_29_20, tk_0, tq_0_0, tq_0_1, tq_0_2, tq_0_3, tq_0_4, tq_0_5, tq_0_6, tq_t, tq_s, tw_va_s, tw_va_n, tw_K_s, tw_K_n, and_true, true_and, and_false, false_and, true_or, or_true, not_true_eq_false, not_false_eq_true, ↓reduceIte, Nat.reduceEqDiff, show (1 : Int32) = nI 1 from rfl]
  refine tw_p_take ht hv hN hy 1 (by omega) a1 a2 (by rw [tw_mn_T]; omega) (fun m2 b1 b2 b3 => ?_)
  simp only [tz_29_0, tz_29_1, tz_29_2, tz_29_3, tz_29_6, tz_29_7, tz_29_8, tz_29_9, tz_29_12, tz_29_13, tz_29_14, tz_29_15, tz_29_16, tz_29_19, tz_29_20, tk_0, tq_0_0, tq_0_1, tq_0_2, tq_0_3, tq_0_4, tq_0_5, tq_0_6, tq_t, tq_s, tw_va_s, tw_va_n, tw_K_s, tw_K_n, and_true, true_and, and_false, false_and, true_or, or_true, not_true_eq_false, not_false_eq_true, ↓reduceIte, Nat.reduceEqDiff, show (1 : Int32) = nI 1 from rfl]
  refine tw_p_take ht hv hN hz 1 (by omega) b1 b2 (by rw [tw_mn_T, tw_mn_T]; omega) (fun m3 c1 c2 c3 => ?_)
  simp only [tz_29_0, tz_29_1, tz_29_2, tz_29_3, tz_29_6, tz_29_7, tz_29_8, tz_29_9, tz_29_12, tz_29_13, tz_29_14, tz_29_15, tz_29_16, tz_29_19, tz_29_20, tw_va_s, tw_va_n, tw_K_s, tw_K_n, and_true, true_and, and_false, false_and, true_or, or_true, not_true_eq_false, not_false_eq_true, ↓reduceIte, Nat.reduceEqDiff]
  simp only [tw_mn, tw_ls, Int32.zero_add] at *
  exact hQ m3 c1 c2 (fun a g1 g2 g3 g4 => by rw [c3 a g1 g2 g3 g4, b3 a g1 g2 g3 g4, a3 a g1 g2 g3 g4])
set_option maxRecDepth 100000 in
theorem tw_p_bl (ht : t = 1 ∨ t = 63) (hv : tw_pv N pg) (hN : 1 ≤ N) {o c e b sp ck da x6 st : Int32} (ho : tw_16 o) (hc : tw_16 c) (he : tw_16 e) (x5 : sp = 0 ∨ sp = 1) : ∀ j (h : Int32) (S : tw_Hs) (mi : tw_I) (x12 : Option Value), tw_CS mi t N pg S → tw_Sv S → S.1 + 3 * j + tw_n3 sp ≤ 4000 →
    (∀ mi', tw_CS mi' t N pg (tw_bend pg N o c e b sp j S h).1 → tw_Sv (tw_bend pg N o c e b sp j S h).1 → (∀ a, (a < t + 2 ∨ t + 2 + N ≤ a) → a ≠ 128 → a ≠ 129 → a ≠ 130 → mi' a = mi a) → Q (some (.int (tw_bend pg N o c e b sp j S h).2)) tw_g0 mi' (tw_r0 t s i)) →
    tw_E sc (d + 7) 22 127 [some (.ref 0), some (.int ck), some (.int da), some (.int b), some (.int st), some (.int sp), some (.int x6), some (.int c), some (.int e), some (.int o), some (.int h), some (.int (nI j + (-1))), x12] [] tw_g0 mi (tw_r0 t s i) Q := by
  intro j
  induction j with
  | zero =>
    intro h S mi x12 hC hS hT hQ
    have c0 : nI 0 + (-1) < 0 := by decide
    rw [tz_22_127]
    simp only [tz_22_0, tz_22_1, tz_22_4, tz_22_7, tz_22_8, tz_22_11, tz_22_14, tz_22_15, tz_22_16, tz_22_17, tz_22_18, tz_22_21, tz_22_22, tz_22_25, tz_22_28, tz_22_30, tz_22_31, tz_22_32, tz_22_34, tz_22_36, tz_22_39, tz_22_40, tz_22_43, tz_22_44, tz_22_45, tz_22_47, tz_22_50, tz_22_51, tz_22_54, tz_22_55, tz_22_56, tz_22_59, tz_22_61, tz_22_63, tz_22_66, tz_22_68, tz_22_69, tz_22_70, tz_22_71, tz_22_72, tz_22_74, tz_22_75, tz_22_76, tz_22_77, tz_22_79, tz_22_80, tz_22_83, tz_22_85, tz_22_87, tz_22_88, tz_22_89, tz_22_90, tz_22_91, tz_22_93, tz_22_95, tz_22_98, tz_22_99, tz_22_101, tz_22_103, tz_22_104, tz_22_106, tz_22_107, tz_22_109, tz_22_111, tz_22_112, tz_22_114, tz_22_117, tz_22_120, tz_22_121, tz_22_123, tz_22_125, tz_22_129, tz_22_132, tz_22_133, tz_22_135, tz_22_138, tz_22_139, tz_22_142, tz_22_144, tz_22_146, tz_22_147, tz_22_150, tz_22_152, tz_22_154, tz_22_156, tz_22_157, tz_22_159, tz_22_161, tz_22_163, tz_22_164, tz_22_166, tz_22_169, tz_22_170, tz_22_172, tz_22_175, tz_22_178, tz_22_180, tz_22_182, tz_22_185, tz_22_186, tz_22_188, tz_22_190, tz_22_192, tz_22_193, tz_22_195, tz_22_197, tz_22_198, tz_22_200, tz_22_201, tz_22_204, tz_22_207, tz_22_208, tz_22_209, tk_0, tq_0_0, tq_0_1, tq_0_2, tq_0_3, tq_0_4, tq_0_5, tq_0_6, tq_t, tq_s, tw_va_s, tw_va_n, tw_K_s, tw_K_n, and_true, true_and, and_false, false_and, true_or, or_true, not_true_eq_false, not_false_eq_true, ↓reduceIte, Nat.reduceEqDiff, c0]
    unfold tw_bend tw_if3 tw_bls at hQ
    by_cases h0 : sp = 0
    · rw [if_pos h0] at hQ
      simp only [h0, ↓reduceIte, Int32.add_zero]
      exact hQ mi hC hS (fun _ _ _ _ _ => rfl)
    · rw [if_neg h0, tw_ls_h] at hQ
      simp only [h0, ↓reduceIte]
      unfold tw_n3 at hT
      rw [if_neg h0] at hT
      refine tw_p_three ht hv hN ho (tw_16_or ho hc) (tw_16_or (tw_16_or ho hc) he) hC hS (by omega) (fun mi' w1 w2 w3 => ?_)
      simp only [tz_22_0, tz_22_1, tz_22_4, tz_22_7, tz_22_8, tz_22_11, tz_22_14, tz_22_15, tz_22_16, tz_22_17, tz_22_18, tz_22_21, tz_22_22, tz_22_25, tz_22_28, tz_22_30, tz_22_31, tz_22_32, tz_22_34, tz_22_36, tz_22_39, tz_22_40, tz_22_43, tz_22_44, tz_22_45, tz_22_47, tz_22_50, tz_22_51, tz_22_54, tz_22_55, tz_22_56, tz_22_59, tz_22_61, tz_22_63, tz_22_66, tz_22_68, tz_22_69, tz_22_70, tz_22_71, tz_22_72, tz_22_74, tz_22_75, tz_22_76, tz_22_77, tz_22_79, tz_22_80, tz_22_83, tz_22_85, tz_22_87, tz_22_88, tz_22_89, tz_22_90, tz_22_91, tz_22_93, tz_22_95, tz_22_98, tz_22_99, tz_22_101, tz_22_103, tz_22_104, tz_22_106, tz_22_107, tz_22_109, tz_22_111, tz_22_112, tz_22_114, tz_22_117, tz_22_120, tz_22_121, tz_22_123, tz_22_125, tz_22_129, tz_22_132, tz_22_133, tz_22_135, tz_22_138, tz_22_139, tz_22_142, tz_22_144, tz_22_146, tz_22_147, tz_22_150, tz_22_152, tz_22_154, tz_22_156, tz_22_157, tz_22_159, tz_22_161, tz_22_163, tz_22_164, tz_22_166, tz_22_169, tz_22_170, tz_22_172, tz_22_175, tz_22_178, tz_22_180, tz_22_182, tz_22_185, tz_22_186, tz_22_188, tz_22_190, tz_22_192, tz_22_193, tz_22_195, tz_22_197, tz_22_198, tz_22_200, tz_22_201, tz_22_204, tz_22_207, tz_22_208, tz_22_209, tw_va_s, tw_va_n, tw_K_s, tw_K_n, and_true, true_and, and_false, false_and, true_or, or_true, not_true_eq_false, not_false_eq_true, ↓reduceIte, Nat.reduceEqDiff]
      exact hQ mi' w1 w2 w3
  | succ j ih =>
    intro h S mi x12 hC hS hT hQ
    have c0 : ¬ nI j < 0 := nI_pos (by omega)
    have h16 : tw_16 (tw_bv o e b j) := by
      unfold tw_bv
      split
      · exact tw_16_or ho he
      · exact ho
    have e2 : (if ¬ tw_bt b (nI j) = 1 then o else o ||| e) = tw_bv o e b j := by unfold tw_bv; by_cases hb : tw_bt b (nI j) = 1 <;> simp [hb]
    rw [tz_22_127]
    simp only [tz_22_0, tz_22_1, tz_22_4, tz_22_7, tz_22_8, tz_22_11, tz_22_14, tz_22_15, tz_22_16, tz_22_17, tz_22_18, tz_22_21, tz_22_22, tz_22_25, tz_22_28, tz_22_30, tz_22_31, tz_22_32, tz_22_34, tz_22_36, tz_22_39, tz_22_40, tz_22_43, tz_22_44, tz_22_45, tz_22_47, tz_22_50, tz_22_51, tz_22_54, tz_22_55, tz_22_56, tz_22_59, tz_22_61, tz_22_63, tz_22_66, tz_22_68, tz_22_69, tz_22_70, tz_22_71, tz_22_72, tz_22_74, tz_22_75, tz_22_76, tz_22_77, tz_22_79, tz_22_80, tz_22_83, tz_22_85, tz_22_87, tz_22_88, tz_22_89, tz_22_90, tz_22_91, tz_22_93, tz_22_95, tz_22_98, tz_22_99, tz_22_101, tz_22_103, tz_22_104, tz_22_106, tz_22_107, tz_22_109, tz_22_111, tz_22_112, tz_22_114, tz_22_117, tz_22_120, tz_22_121, tz_22_123, tz_22_125, tz_22_129, tz_22_132, tz_22_133, tz_22_135, tz_22_138, tz_22_139, tz_22_142, tz_22_144, tz_22_146, tz_22_147, tz_22_150, tz_22_152, tz_22_154, tz_22_156, tz_22_157, tz_22_159, tz_22_161, tz_22_163, tz_22_164, tz_22_166, tz_22_169, tz_22_170, tz_22_172, tz_22_175, tz_22_178, tz_22_180, tz_22_182, tz_22_185, tz_22_186, tz_22_188, tz_22_190, tz_22_192, tz_22_193, tz_22_195, tz_22_197, tz_22_198, tz_22_200, tz_22_201, tz_22_204, tz_22_207, tz_22_208, tz_22_209, tz_31_0, tz_31_1, tz_31_2, tz_31_3, tz_31_4, tz_31_5, tk_0, tq_0_0, tq_0_1, tq_0_2, tq_0_3, tq_0_4, tq_0_5, tq_0_6, tq_t, tq_s, tw_va_s, tw_va_n, tw_K_s, tw_K_n, and_true, true_and, and_false, false_and, true_or, or_true, not_true_eq_false, not_false_eq_true, ↓reduceIte, Nat.reduceEqDiff, c0, pk_m1]
    rw [show b >>> (nI j &&& 31) &&& 1 = tw_bt b (nI j) from rfl]
    have go : ∀ v, v = tw_bv o e b j → tw_E sc (d + 6) 29 0 [some (.ref 0), some (.int v), some (.int (v ||| c)), some (.int v)] [] tw_g0 mi (tw_r0 t s i) (tw_K sc (d + 6 + 1) 22 169 [some (.ref 0), some (.int ck), some (.int da), some (.int b), some (.int st), some (.int sp), some (.int x6), some (.int c), some (.int e), some (.int o), some (.int h), some (.int (nI j)), some (.int v)] [.int h] Q) := by
      intro v ev
      subst ev
      refine tw_p_three ht hv hN h16 (tw_16_or h16 hc) h16 hC hS (by omega) (fun mi' w1 w2 w3 => ?_)
      simp only [tz_22_0, tz_22_1, tz_22_4, tz_22_7, tz_22_8, tz_22_11, tz_22_14, tz_22_15, tz_22_16, tz_22_17, tz_22_18, tz_22_21, tz_22_22, tz_22_25, tz_22_28, tz_22_30, tz_22_31, tz_22_32, tz_22_34, tz_22_36, tz_22_39, tz_22_40, tz_22_43, tz_22_44, tz_22_45, tz_22_47, tz_22_50, tz_22_51, tz_22_54, tz_22_55, tz_22_56, tz_22_59, tz_22_61, tz_22_63, tz_22_66, tz_22_68, tz_22_69, tz_22_70, tz_22_71, tz_22_72, tz_22_74, tz_22_75, tz_22_76, tz_22_77, tz_22_79, tz_22_80, tz_22_83, tz_22_85, tz_22_87, tz_22_88, tz_22_89, tz_22_90, tz_22_91, tz_22_93, tz_22_95, tz_22_98, tz_22_99, tz_22_101, tz_22_103, tz_22_104, tz_22_106, tz_22_107, tz_22_109, tz_22_111, tz_22_112, tz_22_114, tz_22_117, tz_22_120, tz_22_121, tz_22_123, tz_22_125, tz_22_129, tz_22_132, tz_22_133, tz_22_135, tz_22_138, tz_22_139, tz_22_142, tz_22_144, tz_22_146, tz_22_147, tz_22_150, tz_22_152, tz_22_154, tz_22_156, tz_22_157, tz_22_159, tz_22_161, tz_22_163, tz_22_164, tz_22_166, tz_22_169, tz_22_170, tz_22_172, tz_22_175, tz_22_178, tz_22_180, tz_22_182, tz_22_185, tz_22_186, tz_22_188, tz_22_190, tz_22_192, tz_22_193, tz_22_195, tz_22_197, tz_22_198, tz_22_200, tz_22_201, tz_22_204, tz_22_207, tz_22_208, tz_22_209, tw_va_s, tw_va_n, tw_K_s, tw_K_n, and_true, true_and, and_false, false_and, true_or, or_true, not_true_eq_false, not_false_eq_true, ↓reduceIte, Nat.reduceEqDiff]
      refine ih _ (tw_ls pg N [tw_bv o e b j, tw_bv o e b j ||| c, tw_bv o e b j] S 0).1 mi' _ w1 w2 (by rw [tw_ls_T]; simp only [List.length_cons, List.length_nil]; omega) (fun mi2 r1 r2 r3 => ?_)
      unfold tw_bend at hQ r1 r2 ⊢
      rw [tw_bls, tw_ls_h pg N _ S h] at hQ
      exact hQ mi2 r1 r2 (fun a g1 g2 g3 g4 => by rw [r3 a g1 g2 g3 g4, w3 a g1 g2 g3 g4])
    by_cases hb : tw_bt b (nI j) = 1
    · simp only [hb, not_true_eq_false, not_false_eq_true, ↓reduceIte]
      exact go _ (by rw [← e2, if_neg (fun z => z hb)])
    · simp only [hb, not_false_eq_true, ↓reduceIte]
      exact go _ (by rw [← e2, if_pos hb])
set_option maxRecDepth 100000 in
theorem tw_p_sendb (ht : t = 1 ∨ t = 63) (hv : tw_pv N pg) (hC : tw_CS mi t N pg S) (hS : tw_Sv S) (ck da b : Int32) {st sp : Int32} (h4 : st = 0 ∨ st = 1) (h5 : sp = 0 ∨ sp = 1)
    (hQ : ∀ mi', tw_CS mi' t N pg (tw_sdb N pg S ck da b st sp).1 → tw_Sv (tw_sdb N pg S ck da b st sp).1 → (∀ a, (a < t + 2 ∨ t + 2 + N ≤ a) → a ≠ 128 → a ≠ 129 → a ≠ 130 → mi' a = mi a) → Q (some (.int (tw_sdb N pg S ck da b st sp).2)) tw_g0 mi' (tw_r0 t s i)) :
    tw_E sc (d + 8) 22 0 [some (.ref 0), some (.int ck), some (.int da), some (.int b), some (.int st), some (.int sp), none, none, none, none, none, none, none] [] tw_g0 mi (tw_r0 t s i) Q := by
  have hq0 : ∀ r, tw_sdb N pg S ck da b st sp = (S, r) → Q (some (.int r)) tw_g0 mi (tw_r0 t s i) := by
    intro r e
    rw [e] at hQ
    exact hQ _ hC hS (fun _ _ _ _ _ => rfl)
  by_cases h1 : (0 ≤ ck ∧ ck ≤ 15) ∧ (0 ≤ da ∧ da ≤ 15)
  · have n1 : ¬ ck < 0 := Int32.not_lt.mpr h1.1.1
    have n2 : ¬ (16 : Int32) ≤ ck := fun q => (tw_w15 _).mp q h1.1.2
    have n3 : ¬ da < 0 := Int32.not_lt.mpr h1.2.1
    have n4 : ¬ (16 : Int32) ≤ da := fun q => (tw_w15 _).mp q h1.2.2
    simp only [tz_22_0, tz_22_1, tz_22_4, tz_22_7, tz_22_8, tz_22_11, tz_22_14, tz_22_15, tz_22_16, tz_22_17, tz_22_18, tz_22_21, tz_22_22, tz_22_25, tz_22_28, tz_22_30, tz_22_31, tz_22_32, tz_22_34, tz_22_36, tz_22_39, tz_22_40, tz_22_43, tz_22_44, tz_22_45, tz_22_47, tz_22_50, tz_22_51, tz_22_54, tz_22_55, tz_22_56, tz_22_59, tz_22_61, tz_22_63, tz_22_66, tz_22_68, tz_22_69, tz_22_70, tz_22_71, tz_22_72, tz_22_74, tz_22_75, tz_22_76, tz_22_77, tz_22_79, tz_22_80, tz_22_83, tz_22_85, tz_22_87, tz_22_88, tz_22_89, tz_22_90, tz_22_91, tz_22_93, tz_22_95, tz_22_98, tz_22_99, tz_22_101, tz_22_103, tz_22_104, tz_22_106, tz_22_107, tz_22_109, tz_22_111, tz_22_112, tz_22_114, tz_22_117, tz_22_120, tz_22_121, tz_22_123, tz_22_125, tz_22_129, tz_22_132, tz_22_133, tz_22_135, tz_22_138, tz_22_139, tz_22_142, tz_22_144, tz_22_146, tz_22_147, tz_22_150, tz_22_152, tz_22_154, tz_22_156, tz_22_157, tz_22_159, tz_22_161, tz_22_163, tz_22_164, tz_22_166, tz_22_169, tz_22_170, tz_22_172, tz_22_175, tz_22_178, tz_22_180, tz_22_182, tz_22_185, tz_22_186, tz_22_188, tz_22_190, tz_22_192, tz_22_193, tz_22_195, tz_22_197, tz_22_198, tz_22_200, tz_22_201, tz_22_204, tz_22_207, tz_22_208, tz_22_209, tz_32_0, tz_32_1, tz_32_4, tz_32_5, tz_32_7, tz_32_10, tz_32_11, tz_32_14, tz_32_15, tk_0, tq_0_0, tq_0_1, tq_0_2, tq_0_3, tq_0_4, tq_0_5, tq_0_6, tq_t, tq_s, tw_va_s, tw_va_n, tw_K_s, tw_K_n, and_true, true_and, and_false, false_and, true_or, or_true, not_true_eq_false, not_false_eq_true, ↓reduceIte, Nat.reduceEqDiff, n1, n2, n3, n4, show ¬ (1 : Int32) = 0 by decide]
    by_cases h2 : ¬ ck = da ∧ (0 ≤ b ∧ b ≤ 255)
    · have e : tw_sdb N pg S ck da b st sp = (if tw_rfu N S (24 + tw_n3 st + tw_n3 sp) = 0 then tw_bst pg N (tw_oth S ((1 : Int32) <<< (ck &&& 31) ||| (1 : Int32) <<< (da &&& 31))) ((1 : Int32) <<< (ck &&& 31)) ((1 : Int32) <<< (da &&& 31)) b st sp S else (S, tw_rfu N S (24 + tw_n3 st + tw_n3 sp))) := by unfold tw_sdb; rw [if_pos h1, if_pos h2]
      rw [e] at hQ
      obtain ⟨n5, b1, b2⟩ := h2
      have n6 : ¬ b < 0 := Int32.not_lt.mpr b1
      have n7 : ¬ (255 : Int32) < b := Int32.not_lt.mpr b2
      have l4 := tw_n3_le st
      have l5 := tw_n3_le sp
      simp only [tz_22_0, tz_22_1, tz_22_4, tz_22_7, tz_22_8, tz_22_11, tz_22_14, tz_22_15, tz_22_16, tz_22_17, tz_22_18, tz_22_21, tz_22_22, tz_22_25, tz_22_28, tz_22_30, tz_22_31, tz_22_32, tz_22_34, tz_22_36, tz_22_39, tz_22_40, tz_22_43, tz_22_44, tz_22_45, tz_22_47, tz_22_50, tz_22_51, tz_22_54, tz_22_55, tz_22_56, tz_22_59, tz_22_61, tz_22_63, tz_22_66, tz_22_68, tz_22_69, tz_22_70, tz_22_71, tz_22_72, tz_22_74, tz_22_75, tz_22_76, tz_22_77, tz_22_79, tz_22_80, tz_22_83, tz_22_85, tz_22_87, tz_22_88, tz_22_89, tz_22_90, tz_22_91, tz_22_93, tz_22_95, tz_22_98, tz_22_99, tz_22_101, tz_22_103, tz_22_104, tz_22_106, tz_22_107, tz_22_109, tz_22_111, tz_22_112, tz_22_114, tz_22_117, tz_22_120, tz_22_121, tz_22_123, tz_22_125, tz_22_129, tz_22_132, tz_22_133, tz_22_135, tz_22_138, tz_22_139, tz_22_142, tz_22_144, tz_22_146, tz_22_147, tz_22_150, tz_22_152, tz_22_154, tz_22_156, tz_22_157, tz_22_159, tz_22_161, tz_22_163, tz_22_164, tz_22_166, tz_22_169, tz_22_170, tz_22_172, tz_22_175, tz_22_178, tz_22_180, tz_22_182, tz_22_185, tz_22_186, tz_22_188, tz_22_190, tz_22_192, tz_22_193, tz_22_195, tz_22_197, tz_22_198, tz_22_200, tz_22_201, tz_22_204, tz_22_207, tz_22_208, tz_22_209, tz_34_0, tz_34_1, tz_34_4, tz_34_5, tz_34_8, tz_34_11, tz_34_12, tz_34_15, tz_34_16, tk_0, tq_0_0, tq_0_1, tq_0_2, tq_0_3, tq_0_4, tq_0_5, tq_0_6, tq_t, tq_s, tw_va_s, tw_va_n, tw_K_s, tw_K_n, and_true, true_and, and_false, false_and, true_or, or_true, not_true_eq_false, not_false_eq_true, ↓reduceIte, Nat.reduceEqDiff, n5, n6, n7, show ¬ (1 : Int32) = 0 by decide]
      have em : ∀ (z1 z2 : Int32), (24 : Int32) + z1 + z2 = nI 24 + z1 + z2 := fun _ _ => rfl
      have go : ∀ y, y = nI (24 + tw_n3 st + tw_n3 sp) → tw_E sc (d + 7) 26 0 [some (.ref 0), some (.int y)] [] tw_g0 mi (tw_r0 t s i) (tw_K sc (d + 7 + 1) 22 59 [some (.ref 0), some (.int ck), some (.int da), some (.int b), some (.int st), some (.int sp), none, none, none, none, none, none, none] [] Q) := by
        intro y ey
        subst ey
        rw [tw_p_ref ht hC (show 24 + tw_n3 st + tw_n3 sp < 4001 by omega)]
        simp only [tz_22_0, tz_22_1, tz_22_4, tz_22_7, tz_22_8, tz_22_11, tz_22_14, tz_22_15, tz_22_16, tz_22_17, tz_22_18, tz_22_21, tz_22_22, tz_22_25, tz_22_28, tz_22_30, tz_22_31, tz_22_32, tz_22_34, tz_22_36, tz_22_39, tz_22_40, tz_22_43, tz_22_44, tz_22_45, tz_22_47, tz_22_50, tz_22_51, tz_22_54, tz_22_55, tz_22_56, tz_22_59, tz_22_61, tz_22_63, tz_22_66, tz_22_68, tz_22_69, tz_22_70, tz_22_71, tz_22_72, tz_22_74, tz_22_75, tz_22_76, tz_22_77, tz_22_79, tz_22_80, tz_22_83, tz_22_85, tz_22_87, tz_22_88, tz_22_89, tz_22_90, tz_22_91, tz_22_93, tz_22_95, tz_22_98, tz_22_99, tz_22_101, tz_22_103, tz_22_104, tz_22_106, tz_22_107, tz_22_109, tz_22_111, tz_22_112, tz_22_114, tz_22_117, tz_22_120, tz_22_121, tz_22_123, tz_22_125, tz_22_129, tz_22_132, tz_22_133, tz_22_135, tz_22_138, tz_22_139, tz_22_142, tz_22_144, tz_22_146, tz_22_147, tz_22_150, tz_22_152, tz_22_154, tz_22_156, tz_22_157, tz_22_159, tz_22_161, tz_22_163, tz_22_164, tz_22_166, tz_22_169, tz_22_170, tz_22_172, tz_22_175, tz_22_178, tz_22_180, tz_22_182, tz_22_185, tz_22_186, tz_22_188, tz_22_190, tz_22_192, tz_22_193, tz_22_195, tz_22_197, tz_22_198, tz_22_200, tz_22_201, tz_22_204, tz_22_207, tz_22_208, tz_22_209, tk_0, tq_0_0, tq_0_1, tq_0_2, tq_0_3, tq_0_4, tq_0_5, tq_0_6, tq_t, tq_s, tw_va_s, tw_va_n, tw_K_s, tw_K_n, and_true, true_and, and_false, false_and, true_or, or_true, not_true_eq_false, not_false_eq_true, ↓reduceIte, Nat.reduceEqDiff]
        by_cases hr : tw_rfu N S (24 + tw_n3 st + tw_n3 sp) = 0
        · rw [if_pos hr] at hQ
          simp only [hr, ↓reduceIte]
          have hN : 1 ≤ N := by
            unfold tw_rfu at hr
            by_cases h0 : N = 0
            · rw [if_pos h0] at hr; exact absurd hr (by decide)
            · omega
          have hT : S.1 + (24 + tw_n3 st + tw_n3 sp) ≤ 4000 := by
            unfold tw_rfu at hr
            rw [if_neg (by omega)] at hr
            by_cases h0 : 4000 < S.1 + (24 + tw_n3 st + tw_n3 sp)
            · rw [if_pos h0] at hr; exact absurd hr (by decide)
            · omega
          have c16 := tw_16_w h1.1.1 h1.1.2
          have d16 := tw_16_w h1.2.1 h1.2.2
          rw [tw_p_last hC hS]
          simp only [tz_22_0, tz_22_1, tz_22_4, tz_22_7, tz_22_8, tz_22_11, tz_22_14, tz_22_15, tz_22_16, tz_22_17, tz_22_18, tz_22_21, tz_22_22, tz_22_25, tz_22_28, tz_22_30, tz_22_31, tz_22_32, tz_22_34, tz_22_36, tz_22_39, tz_22_40, tz_22_43, tz_22_44, tz_22_45, tz_22_47, tz_22_50, tz_22_51, tz_22_54, tz_22_55, tz_22_56, tz_22_59, tz_22_61, tz_22_63, tz_22_66, tz_22_68, tz_22_69, tz_22_70, tz_22_71, tz_22_72, tz_22_74, tz_22_75, tz_22_76, tz_22_77, tz_22_79, tz_22_80, tz_22_83, tz_22_85, tz_22_87, tz_22_88, tz_22_89, tz_22_90, tz_22_91, tz_22_93, tz_22_95, tz_22_98, tz_22_99, tz_22_101, tz_22_103, tz_22_104, tz_22_106, tz_22_107, tz_22_109, tz_22_111, tz_22_112, tz_22_114, tz_22_117, tz_22_120, tz_22_121, tz_22_123, tz_22_125, tz_22_129, tz_22_132, tz_22_133, tz_22_135, tz_22_138, tz_22_139, tz_22_142, tz_22_144, tz_22_146, tz_22_147, tz_22_150, tz_22_152, tz_22_154, tz_22_156, tz_22_157, tz_22_159, tz_22_161, tz_22_163, tz_22_164, tz_22_166, tz_22_169, tz_22_170, tz_22_172, tz_22_175, tz_22_178, tz_22_180, tz_22_182, tz_22_185, tz_22_186, tz_22_188, tz_22_190, tz_22_192, tz_22_193, tz_22_195, tz_22_197, tz_22_198, tz_22_200, tz_22_201, tz_22_204, tz_22_207, tz_22_208, tz_22_209, tk_0, tq_0_0, tq_0_1, tq_0_2, tq_0_3, tq_0_4, tq_0_5, tq_0_6, tq_t, tq_s, tw_va_s, tw_va_n, tw_K_s, tw_K_n, and_true, true_and, and_false, false_and, true_or, or_true, not_true_eq_false, not_false_eq_true, ↓reduceIte, Nat.reduceEqDiff]
          rw [show tw_lst S &&& (((1 : Int32) <<< (ck &&& 31) ||| (1 : Int32) <<< (da &&& 31)) ^^^ (-1)) = tw_oth S ((1 : Int32) <<< (ck &&& 31) ||| (1 : Int32) <<< (da &&& 31)) from rfl]
          generalize eo : tw_oth S ((1 : Int32) <<< (ck &&& 31) ||| (1 : Int32) <<< (da &&& 31)) = o at hQ ⊢
          have o16 : tw_16 o := by rw [← eo]; exact tw_16_an (tw_16_lst hS) _
          generalize (1 : Int32) <<< (ck &&& 31) = c at *
          generalize (1 : Int32) <<< (da &&& 31) = dd at *
          unfold tw_bst tw_if3 at hQ
          by_cases s0 : st = 0
          · rw [if_pos s0] at hQ
            have z3 : tw_n3 st = 0 := if_pos s0
            simp only [s0, ↓reduceIte, show (7 : Int32) = nI 8 + (-1) from by decide]
            exact tw_p_bl ht hv hN o16 c16 d16 h5 8 0 S mi none hC hS (by omega) hQ
          · rw [if_neg s0] at hQ
            have z3 : tw_n3 st = 3 := if_neg s0
            simp only [s0, ↓reduceIte]
            refine tw_p_three ht hv hN (tw_16_or (tw_16_or o16 c16) d16) (tw_16_or o16 c16) o16 hC hS (by omega) (fun mi' w1 w2 w3 => ?_)
            simp only [tz_22_0, tz_22_1, tz_22_4, tz_22_7, tz_22_8, tz_22_11, tz_22_14, tz_22_15, tz_22_16, tz_22_17, tz_22_18, tz_22_21, tz_22_22, tz_22_25, tz_22_28, tz_22_30, tz_22_31, tz_22_32, tz_22_34, tz_22_36, tz_22_39, tz_22_40, tz_22_43, tz_22_44, tz_22_45, tz_22_47, tz_22_50, tz_22_51, tz_22_54, tz_22_55, tz_22_56, tz_22_59, tz_22_61, tz_22_63, tz_22_66, tz_22_68, tz_22_69, tz_22_70, tz_22_71, tz_22_72, tz_22_74, tz_22_75, tz_22_76, tz_22_77, tz_22_79, tz_22_80, tz_22_83, tz_22_85, tz_22_87, tz_22_88, tz_22_89, tz_22_90, tz_22_91, tz_22_93, tz_22_95, tz_22_98, tz_22_99, tz_22_101, tz_22_103, tz_22_104, tz_22_106, tz_22_107, tz_22_109, tz_22_111, tz_22_112, tz_22_114, tz_22_117, tz_22_120, tz_22_121, tz_22_123, tz_22_125, tz_22_129, tz_22_132, tz_22_133, tz_22_135, tz_22_138, tz_22_139, tz_22_142, tz_22_144, tz_22_146, tz_22_147, tz_22_150, tz_22_152, tz_22_154, tz_22_156, tz_22_157, tz_22_159, tz_22_161, tz_22_163, tz_22_164, tz_22_166, tz_22_169, tz_22_170, tz_22_172, tz_22_175, tz_22_178, tz_22_180, tz_22_182, tz_22_185, tz_22_186, tz_22_188, tz_22_190, tz_22_192, tz_22_193, tz_22_195, tz_22_197, tz_22_198, tz_22_200, tz_22_201, tz_22_204, tz_22_207, tz_22_208, tz_22_209, tw_va_s, tw_va_n, tw_K_s, tw_K_n, and_true, true_and, and_false, false_and, true_or, or_true, not_true_eq_false, not_false_eq_true, ↓reduceIte, Nat.reduceEqDiff, show (7 : Int32) = nI 8 + (-1) from by decide]
            exact tw_p_bl ht hv hN o16 c16 d16 h5 8 _ _ mi' none w1 w2 (by rw [tw_ls_T]; simp only [List.length_cons, List.length_nil]; omega) (fun mi2 r1 r2 r3 => hQ mi2 r1 r2 (fun a g1 g2 g3 g4 => by rw [r3 a g1 g2 g3 g4, w3 a g1 g2 g3 g4]))
        · rw [if_neg hr] at hQ
          simp only [hr, ↓reduceIte]
          exact hQ mi hC hS (fun _ _ _ _ _ => rfl)
      rcases h4 with rfl | rfl <;> rcases h5 with rfl | rfl
      · exact go _ (by decide)
      · simp only [↓reduceIte, show ¬ (1 : Int32) = 0 by decide]; exact go _ (by decide)
      · simp only [↓reduceIte, show ¬ (1 : Int32) = 0 by decide]; exact go _ (by decide)
      · simp only [↓reduceIte, show ¬ (1 : Int32) = 0 by decide]; exact go _ (by decide)
    · have hq := hq0 (-2) (by unfold tw_sdb; rw [if_pos h1, if_neg h2])
      simp only [tz_22_0, tz_22_1, tz_22_4, tz_22_7, tz_22_8, tz_22_11, tz_22_14, tz_22_15, tz_22_16, tz_22_17, tz_22_18, tz_22_21, tz_22_22, tz_22_25, tz_22_28, tz_22_30, tz_22_31, tz_22_32, tz_22_34, tz_22_36, tz_22_39, tz_22_40, tz_22_43, tz_22_44, tz_22_45, tz_22_47, tz_22_50, tz_22_51, tz_22_54, tz_22_55, tz_22_56, tz_22_59, tz_22_61, tz_22_63, tz_22_66, tz_22_68, tz_22_69, tz_22_70, tz_22_71, tz_22_72, tz_22_74, tz_22_75, tz_22_76, tz_22_77, tz_22_79, tz_22_80, tz_22_83, tz_22_85, tz_22_87, tz_22_88, tz_22_89, tz_22_90, tz_22_91, tz_22_93, tz_22_95, tz_22_98, tz_22_99, tz_22_101, tz_22_103, tz_22_104, tz_22_106, tz_22_107, tz_22_109, tz_22_111, tz_22_112, tz_22_114, tz_22_117, tz_22_120, tz_22_121, tz_22_123, tz_22_125, tz_22_129, tz_22_132, tz_22_133, tz_22_135, tz_22_138, tz_22_139, tz_22_142, tz_22_144, tz_22_146, tz_22_147, tz_22_150, tz_22_152, tz_22_154, tz_22_156, tz_22_157, tz_22_159, tz_22_161, tz_22_163, tz_22_164, tz_22_166, tz_22_169, tz_22_170, tz_22_172, tz_22_175, tz_22_178, tz_22_180, tz_22_182, tz_22_185, tz_22_186, tz_22_188, tz_22_190, tz_22_192, tz_22_193, tz_22_195, tz_22_197, tz_22_198, tz_22_200, tz_22_201, tz_22_204, tz_22_207, tz_22_208, tz_22_209, tz_34_0, tz_34_1, tz_34_4, tz_34_5, tz_34_8, tz_34_11, tz_34_12, tz_34_15, tz_34_16, tk_0, tq_0_0, tq_0_1, tq_0_2, tq_0_3, tq_0_4, tq_0_5, tq_0_6, tq_t, tq_s, tw_va_s, tw_va_n, tw_K_s, tw_K_n, and_true, true_and, and_false, false_and, true_or, or_true, not_true_eq_false, not_false_eq_true, ↓reduceIte, Nat.reduceEqDiff]
      by_cases q1 : ck = da
      · simp only [q1, ↓reduceIte]; exact hq
      by_cases q3 : b < 0
      · simp only [q1, q3, ↓reduceIte, show ¬ (1 : Int32) = 0 by decide, not_true_eq_false]; exact hq
      by_cases q4 : (255 : Int32) < b
      · simp only [q1, q3, q4, ↓reduceIte, show ¬ (1 : Int32) = 0 by decide, not_true_eq_false]; exact hq
      exact absurd ⟨q1, Int32.not_lt.mp q3, Int32.not_lt.mp q4⟩ h2
  · have hq := hq0 (-1) (by unfold tw_sdb; rw [if_neg h1])
    simp only [tz_22_0, tz_22_1, tz_22_4, tz_22_7, tz_22_8, tz_22_11, tz_22_14, tz_22_15, tz_22_16, tz_22_17, tz_22_18, tz_22_21, tz_22_22, tz_22_25, tz_22_28, tz_22_30, tz_22_31, tz_22_32, tz_22_34, tz_22_36, tz_22_39, tz_22_40, tz_22_43, tz_22_44, tz_22_45, tz_22_47, tz_22_50, tz_22_51, tz_22_54, tz_22_55, tz_22_56, tz_22_59, tz_22_61, tz_22_63, tz_22_66, tz_22_68, tz_22_69, tz_22_70, tz_22_71, tz_22_72, tz_22_74, tz_22_75, tz_22_76, tz_22_77, tz_22_79, tz_22_80, tz_22_83, tz_22_85, tz_22_87, tz_22_88, tz_22_89, tz_22_90, tz_22_91, tz_22_93, tz_22_95, tz_22_98, tz_22_99, tz_22_101, tz_22_103, tz_22_104, tz_22_106, tz_22_107, tz_22_109, tz_22_111, tz_22_112, tz_22_114, tz_22_117, tz_22_120, tz_22_121, tz_22_123, tz_22_125, tz_22_129, tz_22_132, tz_22_133, tz_22_135, tz_22_138, tz_22_139, tz_22_142, tz_22_144, tz_22_146, tz_22_147, tz_22_150, tz_22_152, tz_22_154, tz_22_156, tz_22_157, tz_22_159, tz_22_161, tz_22_163, tz_22_164, tz_22_166, tz_22_169, tz_22_170, tz_22_172, tz_22_175, tz_22_178, tz_22_180, tz_22_182, tz_22_185, tz_22_186, tz_22_188, tz_22_190, tz_22_192, tz_22_193, tz_22_195, tz_22_197, tz_22_198, tz_22_200, tz_22_201, tz_22_204, tz_22_207, tz_22_208, tz_22_209, tz_32_0, tz_32_1, tz_32_4, tz_32_5, tz_32_7, tz_32_10, tz_32_11, tz_32_14, tz_32_15, tk_0, tq_0_0, tq_0_1, tq_0_2, tq_0_3, tq_0_4, tq_0_5, tq_0_6, tq_t, tq_s, tw_va_s, tw_va_n, tw_K_s, tw_K_n, and_true, true_and, and_false, false_and, true_or, or_true, not_true_eq_false, not_false_eq_true, ↓reduceIte, Nat.reduceEqDiff]
    by_cases q1 : ck < 0
    · simp only [q1, ↓reduceIte]; exact hq
    by_cases q2 : (16 : Int32) ≤ ck
    · simp only [q1, q2, ↓reduceIte]; exact hq
    by_cases q3 : da < 0
    · simp only [q1, q2, q3, ↓reduceIte, show ¬ (1 : Int32) = 0 by decide, not_true_eq_false]; exact hq
    by_cases q4 : (16 : Int32) ≤ da
    · simp only [q1, q2, q3, q4, ↓reduceIte, show ¬ (1 : Int32) = 0 by decide, not_true_eq_false]; exact hq
    exact absurd ⟨⟨Int32.not_lt.mp q1, Decidable.not_not.mp (fun z => q2 ((tw_w15 _).mpr z))⟩, Int32.not_lt.mp q3, Decidable.not_not.mp (fun z => q4 ((tw_w15 _).mpr z))⟩ h1
end tw_sendb
