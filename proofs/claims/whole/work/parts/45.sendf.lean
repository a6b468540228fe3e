/-! sendFrame -/
def tw_lst (S : tw_Hs) : Int32 := if S.1 = 0 then 0 else S.2.1 (S.1 - 1)
/-- the last sample without wires w -/
def tw_oth (S : tw_Hs) (w : Int32) : Int32 := tw_lst S &&& (w ^^^ (-1))
/-- values u p, u (p + 1), ..: m of them, each w times -/
def tw_fdv (pg : Nat → tw_Nd) (N : Nat) (u : Nat → Int32) (w : Nat) : Nat → Nat → tw_Hs → Int32 → tw_Hs × Int32
  | 0, _, S, h => (S, h)
  | m + 1, p, S, h => tw_fdv pg N u w m (p + 1) (tw_mn pg N (u p) w S h).1 (tw_mn pg N (u p) w S h).2
set_option maxRecDepth 100000 in
theorem tw_mn_h (pg : Nat → tw_Nd) (N : Nat) (x : Int32) : ∀ n (S : tw_Hs) (h : Int32), tw_mn pg N x n S h = ((tw_mn pg N x n S 0).1, h + (tw_mn pg N x n S 0).2) := by
  intro n
  induction n with
  | zero => intro S h; simp [tw_mn]
  | succ n ih =>
    intro S h
    simp only [tw_mn]
    rw [ih, ih (tw_cm pg N x S) (0 + tw_cr pg N x S)]
    simp [Int32.add_assoc]
set_option maxRecDepth 100000 in
theorem tw_mn_T (pg : Nat → tw_Nd) (N : Nat) (x : Int32) : ∀ n (S : tw_Hs) (h : Int32), (tw_mn pg N x n S h).1.1 = S.1 + n := by
  intro n
  induction n with
  | zero => intro S h; rfl
  | succ n ih =>
    intro S h
    simp only [tw_mn]
    rw [ih]
    show S.1 + 1 + n = _
    omega
set_option maxRecDepth 100000 in
theorem tw_mn_split (pg : Nat → tw_Nd) (N : Nat) (x : Int32) : ∀ a b (S : tw_Hs) (h : Int32), tw_mn pg N x (a + b) S h = tw_mn pg N x b (tw_mn pg N x a S h).1 (tw_mn pg N x a S h).2 := by
  intro a
  induction a with
  | zero => intro b S h; simp [tw_mn]
  | succ a ih =>
    intro b S h
    rw [show a + 1 + b = (a + b) + 1 by omega]
    simp only [tw_mn]
    exact ih b _ _
set_option maxRecDepth 100000 in
theorem nx_or (a b : Nat) : nI a ||| nI b = nI (a ||| b) := by
  apply Int32.toBitVec_inj.1
  show BitVec.ofNat 32 a ||| BitVec.ofNat 32 b = BitVec.ofNat 32 (a ||| b)
  apply BitVec.eq_of_getLsbD_eq
  intro i hi
  simp [hi]
set_option maxRecDepth 100000 in
theorem tw_16_an {x : Int32} (h : tw_16 x) (z : Int32) : tw_16 (x &&& z) := by
  obtain ⟨m, hm, rfl⟩ := h
  refine ⟨m &&& z.toBitVec.toNat, Nat.lt_of_le_of_lt Nat.and_le_left hm, ?_⟩
  rw [← nx_and]
  congr 1
  apply Int32.toBitVec_inj.1
  show _ = BitVec.ofNat 32 _
  simp
set_option maxRecDepth 100000 in
theorem tw_16_or {x y : Int32} (h : tw_16 x) (h2 : tw_16 y) : tw_16 (x ||| y) := by
  obtain ⟨m, hm, rfl⟩ := h
  obtain ⟨q, hq, rfl⟩ := h2
  exact ⟨m ||| q, Nat.or_lt_two_pow (n := 16) hm hq, nx_or m q⟩
set_option maxRecDepth 100000 in
theorem tw_16_b : ∀ w, w < 16 → (1 : Int32) <<< (nI w &&& 31) = nI (2 ^ w) := by decide +kernel
set_option maxRecDepth 100000 in
theorem tw_16_w {w : Int32} (h0 : 0 ≤ w) (h : w ≤ 15) : tw_16 ((1 : Int32) <<< (w &&& 31)) := by
  obtain ⟨m, _, hm, rfl⟩ := tw_rng (lo := 0) (hi := 15) (by omega) (by omega) h0 h
  exact ⟨2 ^ m, Nat.pow_lt_pow_right (a := 2) (m := m) (n := 16) (by omega) (by omega), tw_16_b m (by omega)⟩
set_option maxRecDepth 100000 in
theorem tw_16_lst {S : tw_Hs} (hS : tw_Sv S) : tw_16 (tw_lst S) := by
  unfold tw_lst
  by_cases h : S.1 = 0
  · rw [if_pos h]; exact ⟨0, by omega, rfl⟩
  · rw [if_neg h]; exact hS.2.1 _ (by omega)
/-- the values of a frame -/
def tw_uf (S : tw_Hs) (c b : Int32) (p : Nat) : Int32 := if p = 0 then tw_oth S c else if p = 9 then tw_oth S c ||| c else if tw_bt b (nI (p - 1)) = 1 then tw_oth S c ||| c else tw_oth S c
def tw_sdf (N : Nat) (pg : Nat → tw_Nd) (S : tw_Hs) (wi k b : Int32) : tw_Hs × Int32 :=
  if 0 ≤ wi ∧ wi ≤ 15 then (if (1 ≤ k ∧ k ≤ 20) ∧ (0 ≤ b ∧ b ≤ 255) then (if tw_rfu N S (10 * k.toNatClampNeg) = 0 then tw_fdv pg N (tw_uf S ((1 : Int32) <<< (wi &&& 31)) b) k.toNatClampNeg 10 0 S 0 else (S, tw_rfu N S (10 * k.toNatClampNeg))) else (S, -2)) else (S, -1)
section tw_sendf
variable {sc : Nat × (Nat → Int32)} {d t s i N k T : Nat} {mi : tw_I} {Q : Option Value → tw_G → tw_I → tw_Q → Prop} {pg : Nat → tw_Nd} {dy : tw_Dy} {S : tw_Hs}
set_option maxRecDepth 100000 in
theorem tw_p_last (hC : tw_CS mi t N pg S) (hS : tw_Sv S) : tw_E sc (d + 2) 27 0 [some (.ref 0)] [] tw_g0 mi (tw_r0 t s i) Q = Q (some (.int (tw_lst S))) tw_g0 mi (tw_r0 t s i) := by
  have h2 := hC.1.2.1
  simp only [tz_27_0, tz_27_1, tz_27_4, tz_27_5, tz_27_8, tz_27_11, tz_27_12, tz_27_13, tz_27_16, tz_27_17, tz_27_20, tz_90_0, tz_90_1, tz_90_4, tk_0, tq_0_0, tq_0_1, tq_0_2, tq_0_3, tq_0_4, tq_0_5, tq_0_6, tq_t, tq_s, tk_128, tq_128_0, tq_128_1, tw_va_s, tw_va_n, tw_K_s, tw_K_n, and_true, true_and, and_false, false_and, true_or, or_true, not_true_eq_false, not_false_eq_true, ↓reduceIte, Nat.reduceEqDiff, h2, tw_p_before hC.1 S ⟨rfl, rfl⟩ t]
  unfold tw_lst tw_yy
  by_cases h : S.1 = 0
  · simp [h]
  · simp only [h, ↓reduceIte]
    rw [if_neg (tw_16_nn (hS.2.1 _ (by omega)))]
set_option maxRecDepth 100000 in
theorem tw_p_frl (ht : t = 1 ∨ t = 63) (hv : tw_pv N pg) (hN : 1 ≤ N) {lo hi c b : Int32} {w : Nat} (hw : w < 2 ^ 30) (hlo : tw_16 lo) (hhi : tw_16 hi) (u : Nat → Int32) (hu : ∀ j, j < 8 → u (j + 1) = if tw_bt b (nI j) = 1 then hi else lo) (h9 : u 9 = hi) : ∀ f j (h : Int32) (S : tw_Hs) (mi : tw_I), 8 = j + f → tw_CS mi t N pg S → tw_Sv S → S.1 + w * (f + 1) ≤ 4000 →
    (∀ mi', tw_CS mi' t N pg (tw_fdv pg N u w (f + 1) (j + 1) S h).1 → tw_Sv (tw_fdv pg N u w (f + 1) (j + 1) S h).1 → (∀ a, (a < t + 2 ∨ t + 2 + N ≤ a) → a ≠ 128 → a ≠ 129 → a ≠ 130 → mi' a = mi a) → Q (some (.int (tw_fdv pg N u w (f + 1) (j + 1) S h).2)) tw_g0 mi' (tw_r0 t s i)) →
    tw_E sc (d + 6) 30 28 [some (.ref 0), some (.int c), some (.int (nI w)), some (.int b), some (.int lo), some (.int hi), some (.int h), some (.int (nI j))] [] tw_g0 mi (tw_r0 t s i) Q := by
  intro f
  induction f with
  | zero =>
    intro j h S mi hj hC hS hT hQ
    obtain rfl : j = 8 := by omega
    rw [tz_30_28]
    simp only [tz_30_0, tz_30_1, tz_30_4, tz_30_5, tz_30_6, tz_30_7, tz_30_8, tz_30_10, tz_30_12, tz_30_13, tz_30_14, tz_30_16, tz_30_17, tz_30_19, tz_30_20, tz_30_23, tz_30_25, tz_30_26, tz_30_30, tz_30_32, tz_30_35, tz_30_37, tz_30_38, tz_30_39, tz_30_41, tz_30_44, tz_30_45, tz_30_48, tz_30_50, tz_30_53, tz_30_55, tz_30_56, tz_30_59, tz_30_60, tz_30_62, tz_30_65, tz_30_68, tz_30_70, tz_30_71, tz_30_73, tz_30_74, tz_30_77, tz_30_78, tk_0, tq_0_0, tq_0_1, tq_0_2, tq_0_3, tq_0_4, tq_0_5, tq_0_6, tq_t, tq_s, tw_va_s, tw_va_n, tw_K_s, tw_K_n, and_true, true_and, and_false, false_and, true_or, or_true, not_true_eq_false, not_false_eq_true, ↓reduceIte, Nat.reduceEqDiff, tl8]
    rw [tw_le_t (by omega) (by omega)]
    refine tw_p_take ht hv hN hhi w hw hC hS (by omega) (fun mi' w1 w2 w3 => ?_)
    simp only [tz_30_0, tz_30_1, tz_30_4, tz_30_5, tz_30_6, tz_30_7, tz_30_8, tz_30_10, tz_30_12, tz_30_13, tz_30_14, tz_30_16, tz_30_17, tz_30_19, tz_30_20, tz_30_23, tz_30_25, tz_30_26, tz_30_30, tz_30_32, tz_30_35, tz_30_37, tz_30_38, tz_30_39, tz_30_41, tz_30_44, tz_30_45, tz_30_48, tz_30_50, tz_30_53, tz_30_55, tz_30_56, tz_30_59, tz_30_60, tz_30_62, tz_30_65, tz_30_68, tz_30_70, tz_30_71, tz_30_73, tz_30_74, tz_30_77, tz_30_78, tw_va_s, tw_va_n, tw_K_s, tw_K_n, and_true, true_and, and_false, false_and, true_or, or_true, not_true_eq_false, not_false_eq_true, ↓reduceIte, Nat.reduceEqDiff]
    simp only [tw_fdv, h9, show 8 + 1 = 9 from rfl] at hQ
    rw [tw_mn_h] at hQ
    exact hQ mi' w1 w2 w3
  | succ f ih =>
    intro j h S mi hj hC hS hT hQ
    have e1 : w * (f + 1 + 1) = w * (f + 1) + w := Nat.mul_succ _ _
    rw [tz_30_28]
    simp only [tz_30_0, tz_30_1, tz_30_4, tz_30_5, tz_30_6, tz_30_7, tz_30_8, tz_30_10, tz_30_12, tz_30_13, tz_30_14, tz_30_16, tz_30_17, tz_30_19, tz_30_20, tz_30_23, tz_30_25, tz_30_26, tz_30_30, tz_30_32, tz_30_35, tz_30_37, tz_30_38, tz_30_39, tz_30_41, tz_30_44, tz_30_45, tz_30_48, tz_30_50, tz_30_53, tz_30_55, tz_30_56, tz_30_59, tz_30_60, tz_30_62, tz_30_65, tz_30_68, tz_30_70, tz_30_71, tz_30_73, tz_30_74, tz_30_77, tz_30_78, tz_31_0, tz_31_1, tz_31_2, tz_31_3, tz_31_4, tz_31_5, tk_0, tq_0_0, tq_0_1, tq_0_2, tq_0_3, tq_0_4, tq_0_5, tq_0_6, tq_t, tq_s, tw_va_s, tw_va_n, tw_K_s, tw_K_n, and_true, true_and, and_false, false_and, true_or, or_true, not_true_eq_false, not_false_eq_true, ↓reduceIte, Nat.reduceEqDiff, tl8]
    rw [tw_le_f (by omega) (by omega), show b >>> (nI j &&& 31) &&& 1 = tw_bt b (nI j) from rfl]
    have hu2 := hu j (by omega)
    have go : ∀ v, tw_16 v → u (j + 1) = v → tw_E sc (d + 5) 28 0 [some (.ref 0), some (.int v), some (.int (nI w)), none, none, none, none] [] tw_g0 mi (tw_r0 t s i) (tw_K sc (d + 5 + 1) 30 59 [some (.ref 0), some (.int c), some (.int (nI w)), some (.int b), some (.int lo), some (.int hi), some (.int h), some (.int (nI j))] [.int h] Q) := by
      intro v hv16 e
      refine tw_p_take ht hv hN hv16 w hw hC hS (by omega) (fun mi' w1 w2 w3 => ?_)
      simp only [tz_30_0, tz_30_1, tz_30_4, tz_30_5, tz_30_6, tz_30_7, tz_30_8, tz_30_10, tz_30_12, tz_30_13, tz_30_14, tz_30_16, tz_30_17, tz_30_19, tz_30_20, tz_30_23, tz_30_25, tz_30_26, tz_30_30, tz_30_32, tz_30_35, tz_30_37, tz_30_38, tz_30_39, tz_30_41, tz_30_44, tz_30_45, tz_30_48, tz_30_50, tz_30_53, tz_30_55, tz_30_56, tz_30_59, tz_30_60, tz_30_62, tz_30_65, tz_30_68, tz_30_70, tz_30_71, tz_30_73, tz_30_74, tz_30_77, tz_30_78, tw_va_s, tw_va_n, tw_K_s, tw_K_n, and_true, true_and, and_false, false_and, true_or, or_true, not_true_eq_false, not_false_eq_true, ↓reduceIte, Nat.reduceEqDiff, nI_1]
      have e2 := tw_mn_h pg N v w S h
      refine ih (j + 1) _ (tw_mn pg N v w S 0).1 mi' (by omega) w1 w2 (by rw [tw_mn_T]; omega) (fun mi2 r1 r2 r3 => ?_)
      rw [tw_fdv, e, e2] at hQ
      exact hQ mi2 r1 r2 (fun a g1 g2 g3 g4 => by rw [r3 a g1 g2 g3 g4, w3 a g1 g2 g3 g4])
    by_cases hb : tw_bt b (nI j) = 1
    · rw [if_pos hb] at hu2
      simp only [hb, not_true_eq_false, ↓reduceIte]
      exact go hi hhi hu2
    · rw [if_neg hb] at hu2
      simp only [hb, not_false_eq_true, ↓reduceIte]
      exact go lo hlo hu2
set_option maxRecDepth 100000 in
theorem tw_fdv_s (u : Nat → Int32) (w m p : Nat) (S : tw_Hs) (h : Int32) : tw_fdv pg N u w (m + 1) p S h = tw_fdv pg N u w m (p + 1) (tw_mn pg N (u p) w S 0).1 (h + (tw_mn pg N (u p) w S 0).2) := by
  rw [tw_fdv, tw_mn_h]
set_option maxRecDepth 100000 in
theorem tw_p_frame (ht : t = 1 ∨ t = 63) (hv : tw_pv N pg) (hN : 1 ≤ N) {c b : Int32} {w : Nat} (hw : w < 2 ^ 20) (hc : tw_16 c) (hC : tw_CS mi t N pg S) (hS : tw_Sv S) (hT : S.1 + w * 10 ≤ 4000)
    (hQ : ∀ mi', tw_CS mi' t N pg (tw_fdv pg N (tw_uf S c b) w 10 0 S 0).1 → tw_Sv (tw_fdv pg N (tw_uf S c b) w 10 0 S 0).1 → (∀ a, (a < t + 2 ∨ t + 2 + N ≤ a) → a ≠ 128 → a ≠ 129 → a ≠ 130 → mi' a = mi a) → Q (some (.int (tw_fdv pg N (tw_uf S c b) w 10 0 S 0).2)) tw_g0 mi' (tw_r0 t s i)) :
    tw_E sc (d + 6) 30 0 [some (.ref 0), some (.int c), some (.int (nI w)), some (.int b), none, none, none, none] [] tw_g0 mi (tw_r0 t s i) Q := by
  have h16 : tw_16 (tw_oth S c) := tw_16_an (tw_16_lst hS) _
  have e1 : w * 10 = w * 9 + w := Nat.mul_succ _ _
  simp only [tz_30_0, tz_30_1, tz_30_4, tz_30_5, tz_30_6, tz_30_7, tz_30_8, tz_30_10, tz_30_12, tz_30_13, tz_30_14, tz_30_16, tz_30_17, tz_30_19, tz_30_20, tz_30_23, tz_30_25, tz_30_26, tz_30_30, tz_30_32, tz_30_35, tz_30_37, tz_30_38, tz_30_39, tz_30_41, tz_30_44, tz_30_45, tz_30_48, tz_30_50, tz_30_53, tz_30_55, tz_30_56, tz_30_59, tz_30_60, tz_30_62, tz_30_65, tz_30_68, tz_30_70, tz_30_71, tz_30_73, tz_30_74, tz_30_77, tz_30_78, tk_0, tq_0_0, tq_0_1, tq_0_2, tq_0_3, tq_0_4, tq_0_5, tq_0_6, tq_t, tq_s, tw_va_s, tw_va_n, tw_K_s, tw_K_n, and_true, true_and, and_false, false_and, true_or, or_true, not_true_eq_false, not_false_eq_true, ↓reduceIte, Nat.reduceEqDiff, tw_p_last hC hS]
  rw [show tw_lst S &&& (c ^^^ (-1)) = tw_oth S c from rfl]
  refine tw_p_take ht hv hN h16 w (by omega) hC hS (by omega) (fun mi' w1 w2 w3 => ?_)
  simp only [tz_30_0, tz_30_1, tz_30_4, tz_30_5, tz_30_6, tz_30_7, tz_30_8, tz_30_10, tz_30_12, tz_30_13, tz_30_14, tz_30_16, tz_30_17, tz_30_19, tz_30_20, tz_30_23, tz_30_25, tz_30_26, tz_30_30, tz_30_32, tz_30_35, tz_30_37, tz_30_38, tz_30_39, tz_30_41, tz_30_44, tz_30_45, tz_30_48, tz_30_50, tz_30_53, tz_30_55, tz_30_56, tz_30_59, tz_30_60, tz_30_62, tz_30_65, tz_30_68, tz_30_70, tz_30_71, tz_30_73, tz_30_74, tz_30_77, tz_30_78, tw_va_s, tw_va_n, tw_K_s, tw_K_n, and_true, true_and, and_false, false_and, true_or, or_true, not_true_eq_false, not_false_eq_true, ↓reduceIte, Nat.reduceEqDiff]
  rw [tw_fdv_s, show tw_uf S c b 0 = tw_oth S c from rfl] at hQ
  rw [show (tw_mn pg N (tw_oth S c) w S 0).2 = 0 + (tw_mn pg N (tw_oth S c) w S 0).2 from (Int32.zero_add _).symm]
  refine tw_p_frl (b := b) ht hv hN (show w < 2 ^ 30 by omega) h16 (tw_16_or h16 hc) (tw_uf S c b) (fun j hj => ?_) rfl 8 0 _ (tw_mn pg N (tw_oth S c) w S 0).1 mi' rfl w1 w2 (by rw [tw_mn_T]; omega) (fun mi2 r1 r2 r3 => hQ mi2 r1 r2 (fun a g1 g2 g3 g4 => by rw [r3 a g1 g2 g3 g4, w3 a g1 g2 g3 g4]))
  unfold tw_uf
  rw [if_neg (by omega), if_neg (by omega)]
  rfl
set_option maxRecDepth 100000 in
theorem tw_p_sendf (ht : t = 1 ∨ t = 63) (hv : tw_pv N pg) (hC : tw_CS mi t N pg S) (hS : tw_Sv S) (wi k b : Int32)
    (hQ : ∀ mi', tw_CS mi' t N pg (tw_sdf N pg S wi k b).1 → tw_Sv (tw_sdf N pg S wi k b).1 → (∀ a, (a < t + 2 ∨ t + 2 + N ≤ a) → a ≠ 128 → a ≠ 129 → a ≠ 130 → mi' a = mi a) → Q (some (.int (tw_sdf N pg S wi k b).2)) tw_g0 mi' (tw_r0 t s i)) :
    tw_E sc (d + 7) 21 0 [some (.ref 0), some (.int wi), some (.int k), some (.int b), none] [] tw_g0 mi (tw_r0 t s i) Q := by
  have w15 : (16 : Int32) ≤ wi ↔ ¬ wi ≤ 15 := by
    rw [Int32.le_iff_toInt_le, Int32.le_iff_toInt_le]
    have a : (16 : Int32).toInt = 16 := rfl
    have b : (15 : Int32).toInt = 15 := rfl
    omega
  simp only [tz_21_0, tz_21_1, tz_21_4, tz_21_7, tz_21_8, tz_21_9, tz_21_10, tz_21_13, tz_21_16, tz_21_17, tz_21_20, tz_21_23, tz_21_25, tz_21_26, tz_21_27, tz_21_29, tz_21_30, tz_21_31, tz_21_34, tz_21_36, tz_21_38, tz_21_41, tz_21_43, tz_21_46, tz_21_47, tz_21_48, tz_21_49, tz_21_50, tz_21_51, tz_21_52, tz_21_55, tz_32_0, tz_32_1, tz_32_4, tz_32_5, tz_32_7, tz_32_10, tz_32_11, tz_32_14, tz_32_15, tk_0, tq_0_0, tq_0_1, tq_0_2, tq_0_3, tq_0_4, tq_0_5, tq_0_6, tq_t, tq_s, tw_va_s, tw_va_n, tw_K_s, tw_K_n, and_true, true_and, and_false, false_and, true_or, or_true, not_true_eq_false, not_false_eq_true, ↓reduceIte, Nat.reduceEqDiff]
  by_cases h1 : 0 ≤ wi ∧ wi ≤ 15
  · have n1 : ¬ wi < 0 := Int32.not_lt.mpr h1.1
    have n2 : ¬ (16 : Int32) ≤ wi := fun q => w15.mp q h1.2
    simp only [n1, n2, ↓reduceIte, not_true_eq_false, not_false_eq_true, show ¬ (1 : Int32) = 0 by decide]
    by_cases h2 : (1 ≤ k ∧ k ≤ 20) ∧ (0 ≤ b ∧ b ≤ 255)
    · have e : tw_sdf N pg S wi k b = (if tw_rfu N S (10 * k.toNatClampNeg) = 0 then tw_fdv pg N (tw_uf S ((1 : Int32) <<< (wi &&& 31)) b) k.toNatClampNeg 10 0 S 0 else (S, tw_rfu N S (10 * k.toNatClampNeg))) := by unfold tw_sdf; rw [if_pos h1, if_pos h2]
      rw [e] at hQ
      obtain ⟨⟨k1, k2⟩, b1, b2⟩ := h2
      obtain ⟨w, m0, m1, rfl⟩ := tw_rng (lo := 1) (hi := 20) (by omega) (by omega) k1 k2
      have n3 : ¬ nI w < 1 := Int32.not_lt.mpr k1
      have n4 : ¬ (20 : Int32) < nI w := Int32.not_lt.mpr k2
      have n5 : ¬ b < 0 := Int32.not_lt.mpr b1
      have n6 : ¬ (255 : Int32) < b := Int32.not_lt.mpr b2
      have em : (10 : Int32) * nI w = nI (10 * w) := pk_mul 10 w
      rw [nI_clamp (by omega)] at hQ
      simp only [tz_21_0, tz_21_1, tz_21_4, tz_21_7, tz_21_8, tz_21_9, tz_21_10, tz_21_13, tz_21_16, tz_21_17, tz_21_20, tz_21_23, tz_21_25, tz_21_26, tz_21_27, tz_21_29, tz_21_30, tz_21_31, tz_21_34, tz_21_36, tz_21_38, tz_21_41, tz_21_43, tz_21_46, tz_21_47, tz_21_48, tz_21_49, tz_21_50, tz_21_51, tz_21_52, tz_21_55, tz_33_0, tz_33_1, tz_33_2, tz_33_5, tz_33_6, tz_33_8, tz_33_11, tz_33_12, tz_33_15, tz_33_16, tz_34_0, tz_34_1, tz_34_4, tz_34_5, tz_34_8, tz_34_11, tz_34_12, tz_34_15, tz_34_16, tk_0, tq_0_0, tq_0_1, tq_0_2, tq_0_3, tq_0_4, tq_0_5, tq_0_6, tq_t, tq_s, tw_va_s, tw_va_n, tw_K_s, tw_K_n, and_true, true_and, and_false, false_and, true_or, or_true, not_true_eq_false, not_false_eq_true, ↓reduceIte, Nat.reduceEqDiff, n3, n4, n5, n6, em, tw_p_ref ht hC (show 10 * w < 4001 by omega), show ¬ (1 : Int32) = 0 by decide]
      by_cases hr : tw_rfu N S (10 * w) = 0
      · rw [if_pos hr] at hQ
        simp only [hr, ↓reduceIte]
        have hN : 1 ≤ N := by
          unfold tw_rfu at hr
          by_cases h0 : N = 0
          · rw [if_pos h0] at hr; exact absurd hr (by decide)
          · omega
        have hT : S.1 + w * 10 ≤ 4000 := by
          unfold tw_rfu at hr
          rw [if_neg (by omega)] at hr
          by_cases h0 : 4000 < S.1 + 10 * w
          · rw [if_pos h0] at hr; exact absurd hr (by decide)
          · omega
        refine tw_p_frame ht hv hN (by omega) (tw_16_w h1.1 h1.2) hC hS hT (fun mi' w1 w2 w3 => ?_)
        simp only [tz_21_0, tz_21_1, tz_21_4, tz_21_7, tz_21_8, tz_21_9, tz_21_10, tz_21_13, tz_21_16, tz_21_17, tz_21_20, tz_21_23, tz_21_25, tz_21_26, tz_21_27, tz_21_29, tz_21_30, tz_21_31, tz_21_34, tz_21_36, tz_21_38, tz_21_41, tz_21_43, tz_21_46, tz_21_47, tz_21_48, tz_21_49, tz_21_50, tz_21_51, tz_21_52, tz_21_55, tw_va_s, tw_va_n, tw_K_s, tw_K_n, and_true, true_and, and_false, false_and, true_or, or_true, not_true_eq_false, not_false_eq_true, ↓reduceIte, Nat.reduceEqDiff]
        exact hQ mi' w1 w2 w3
      · rw [if_neg hr] at hQ
        simp only [hr, ↓reduceIte]
        exact hQ mi hC hS (fun _ _ _ _ _ => rfl)
    · have e : tw_sdf N pg S wi k b = (S, -2) := by unfold tw_sdf; rw [if_pos h1, if_neg h2]
      rw [e] at hQ
      have hq := hQ mi hC hS (fun _ _ _ _ _ => rfl)
      simp only [tz_21_0, tz_21_1, tz_21_4, tz_21_7, tz_21_8, tz_21_9, tz_21_10, tz_21_13, tz_21_16, tz_21_17, tz_21_20, tz_21_23, tz_21_25, tz_21_26, tz_21_27, tz_21_29, tz_21_30, tz_21_31, tz_21_34, tz_21_36, tz_21_38, tz_21_41, tz_21_43, tz_21_46, tz_21_47, tz_21_48, tz_21_49, tz_21_50, tz_21_51, tz_21_52, tz_21_55, tz_33_0, tz_33_1, tz_33_2, tz_33_5, tz_33_6, tz_33_8, tz_33_11, tz_33_12, tz_33_15, tz_33_16, tz_34_0, tz_34_1, tz_34_4, tz_34_5, tz_34_8, tz_34_11, tz_34_12, tz_34_15, tz_34_16, tk_0, tq_0_0, tq_0_1, tq_0_2, tq_0_3, tq_0_4, tq_0_5, tq_0_6, tq_t, tq_s, tw_va_s, tw_va_n, tw_K_s, tw_K_n, and_true, true_and, and_false, false_and, true_or, or_true, not_true_eq_false, not_false_eq_true, ↓reduceIte, Nat.reduceEqDiff]
      by_cases q1 : k < 1
      · simp only [q1, ↓reduceIte]; exact hq
      by_cases q2 : (20 : Int32) < k
      · simp only [q1, q2, ↓reduceIte]; exact hq
      by_cases q3 : b < 0
      · simp only [q1, q2, q3, ↓reduceIte, show ¬ (1 : Int32) = 0 by decide, not_true_eq_false]; exact hq
      by_cases q4 : (255 : Int32) < b
      · simp only [q1, q2, q3, q4, ↓reduceIte, show ¬ (1 : Int32) = 0 by decide, not_true_eq_false]; exact hq
      exact absurd ⟨⟨Int32.not_lt.mp q1, Int32.not_lt.mp q2⟩, Int32.not_lt.mp q3, Int32.not_lt.mp q4⟩ h2
  · have e : tw_sdf N pg S wi k b = (S, -1) := by unfold tw_sdf; rw [if_neg h1]
    rw [e] at hQ
    have hq := hQ mi hC hS (fun _ _ _ _ _ => rfl)
    by_cases q1 : wi < 0
    · simp only [q1, ↓reduceIte, not_true_eq_false]; exact hq
    by_cases q2 : (16 : Int32) ≤ wi
    · simp only [q1, q2, ↓reduceIte, not_true_eq_false]; exact hq
    exact absurd ⟨Int32.not_lt.mp q1, Decidable.not_not.mp (fun z => q2 (w15.mpr z))⟩ h1
end tw_sendf
