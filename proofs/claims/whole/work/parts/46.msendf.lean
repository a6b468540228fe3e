/-! the reference's sendFrame -/
def tw_sqv (pg : Nat → tw_Nd) (N : Nat) (v : Nat → Int32) : Nat → Nat → tw_Hs → Int32 → tw_Hs × Int32
  | 0, _, S, h => (S, h)
  | n + 1, k, S, h => tw_sqv pg N v n (k + 1) (tw_cm pg N (v k) S) (h + tw_cr pg N (v k) S)
set_option maxRecDepth 100000 in
theorem tw_sqv_a (pg : Nat → tw_Nd) (N : Nat) (v : Nat → Int32) : ∀ a b k (S : tw_Hs) (h : Int32), tw_sqv pg N v (a + b) k S h = tw_sqv pg N v b (k + a) (tw_sqv pg N v a k S h).1 (tw_sqv pg N v a k S h).2 := by
  intro a
  induction a with
  | zero => intro b k S h; simp [tw_sqv]
  | succ a ih =>
    intro b k S h
    rw [show a + 1 + b = (a + b) + 1 by omega]
    simp only [tw_sqv]
    rw [ih, show k + 1 + a = k + (a + 1) by omega]
set_option maxRecDepth 100000 in
theorem tw_sqv_c (pg : Nat → tw_Nd) (N : Nat) (v : Nat → Int32) (x : Int32) : ∀ n k (S : tw_Hs) (h : Int32), (∀ j, j < n → v (k + j) = x) → tw_sqv pg N v n k S h = tw_mn pg N x n S h := by
  intro n
  induction n with
  | zero => intro k S h _; rfl
  | succ n ih =>
    intro k S h hj
    simp only [tw_sqv, tw_mn]
    have h0 : v k = x := hj 0 (by omega)
    rw [h0]
    exact ih (k + 1) _ _ (fun j h2 => by rw [show k + 1 + j = k + (j + 1) by omega]; exact hj (j + 1) (by omega))
set_option maxRecDepth 100000 in
theorem tw_fdv_q (pg : Nat → tw_Nd) (N : Nat) (u : Nat → Int32) {w : Nat} (hw : 1 ≤ w) : ∀ m p (S : tw_Hs) (h : Int32), tw_sqv pg N (fun k => u (k / w)) (w * m) (w * p) S h = tw_fdv pg N u w m p S h := by
  intro m
  induction m with
  | zero => intro p S h; rfl
  | succ m ih =>
    intro p S h
    rw [show w * (m + 1) = w + w * m by rw [Nat.mul_succ]; omega, tw_sqv_a, show w * p + w = w * (p + 1) from (Nat.mul_succ _ _).symm, ih, tw_fdv, tw_sqv_c pg N _ (u p) w (w * p) S h (fun j hj => by
      show u ((w * p + j) / w) = u p
      rw [Nat.mul_add_div hw, Nat.div_eq_of_lt hj, Nat.add_zero])]
set_option maxRecDepth 100000 in
theorem tw_wave : ∀ m, m < 256 → ∀ p, p < 10 → tw_bt (nI m <<< ((1 : Int32) &&& 31) ||| 512) (nI p) = if p = 0 then 0 else if p = 9 then 1 else tw_bt (nI m) (nI (p - 1)) := by decide +kernel
set_option maxRecDepth 100000 in
theorem tw_zsh : ∀ m, m < 16 → (0 : Int32) <<< (nI m &&& 31) = 0 := by decide +kernel
section tw_msendf
variable {sc : Nat × (Nat → Int32)} {d t s i N k T : Nat} {mi : tw_I} {Q : Option Value → tw_G → tw_I → tw_Q → Prop} {pg : Nat → tw_Nd} {dy : tw_Dy} {S : tw_Hs}
set_option maxRecDepth 100000 in
theorem tw_q_wv {wi b : Int32} (hw0 : 0 ≤ wi) (hw : wi ≤ 15) (hb0 : 0 ≤ b) (hb : b ≤ 255) {p : Nat} (hp : p < 10) : tw_oth S ((1 : Int32) <<< (wi &&& 31)) ||| ((b <<< ((1 : Int32) &&& 31) ||| 512) >>> (nI p &&& 31) &&& 1) <<< (wi &&& 31) = tw_uf S ((1 : Int32) <<< (wi &&& 31)) b p := by
  obtain ⟨m, _, hm, rfl⟩ := tw_rng (lo := 0) (hi := 15) (by omega) (by omega) hw0 hw
  obtain ⟨q, _, hq, rfl⟩ := tw_rng (lo := 0) (hi := 255) (by omega) (by omega) hb0 hb
  rw [show (nI q <<< ((1 : Int32) &&& 31) ||| 512) >>> (nI p &&& 31) &&& 1 = tw_bt (nI q <<< ((1 : Int32) &&& 31) ||| 512) (nI p) from rfl, tw_wave q (by omega) p hp]
  unfold tw_uf
  by_cases p0 : p = 0
  · rw [if_pos p0, if_pos p0, tw_zsh m (by omega), Int32.or_zero]
  rw [if_neg p0, if_neg p0]
  by_cases p9 : p = 9
  · rw [if_pos p9, if_pos p9]
  rw [if_neg p9, if_neg p9]
  rcases tw_bt01 (nI q) (nI (p - 1)) with e | e
  · rw [e, if_neg (by decide), tw_zsh m (by omega), Int32.or_zero]
  · rw [e, if_pos rfl]
set_option maxRecDepth 100000 in
theorem tw_q_others (hC : tw_MS mi N pg S) (w : Int32) : tw_E sc d 170 0 [some (.ref 139), some (.int w)] [] tw_g0 mi (tw_r0 t s i) Q = Q (some (.int (tw_oth S w))) tw_g0 mi (tw_r0 t s i) := by
  obtain ⟨⟨hT, h20, h154, _⟩, _⟩ := hC
  unfold tw_oth tw_lst
  by_cases h : S.1 = 0
  · have e : nI S.1 = 0 := by rw [h]; rfl
    simp only [tz_170_0, tz_170_1, tz_170_4, tz_170_7, tz_170_8, tz_170_11, tz_170_12, tz_170_15, tz_170_16, tz_170_19, tz_170_20, tz_170_21, tz_170_22, tz_170_23, tz_170_24, tz_170_25, tz_170_26, tk_139, tq_139_1, tq_139_6, tq_139_7, tq_139_8, tq_139_9, tq_139_10, tq_139_12, tq_139_13, tq_139_14, tq_139_15, tq_139_16, tq_139_17, tq_139_18, tq_139_19, tq_139_21, tq_139_22, tq_139_24, tq_139_26, tq_139_27, tq_139_28, tq_139_34, tq_139_35, tq_139_36, tq_139_37, tw_va_s, tw_va_n, tw_K_s, tw_K_n, and_true, true_and, and_false, false_and, true_or, or_true, not_true_eq_false, not_false_eq_true, ↓reduceIte, Nat.reduceEqDiff, h20, e, h]
    simp [nI_0]
  · have e : ¬ nI S.1 = 0 := nI_ne0 (by omega) (by omega)
    simp only [tz_170_0, tz_170_1, tz_170_4, tz_170_7, tz_170_8, tz_170_11, tz_170_12, tz_170_15, tz_170_16, tz_170_19, tz_170_20, tz_170_21, tz_170_22, tz_170_23, tz_170_24, tz_170_25, tz_170_26, tk_139, tq_139_1, tq_139_6, tq_139_7, tq_139_8, tq_139_9, tq_139_10, tq_139_12, tq_139_13, tq_139_14, tq_139_15, tq_139_16, tq_139_17, tq_139_18, tq_139_19, tq_139_21, tq_139_22, tq_139_24, tq_139_26, tq_139_27, tq_139_28, tq_139_34, tq_139_35, tq_139_36, tq_139_37, tk_154, tj_154, tw_va_s, tw_va_n, tw_K_s, tw_K_n, and_true, true_and, and_false, false_and, true_or, or_true, not_true_eq_false, not_false_eq_true, ↓reduceIte, Nat.reduceEqDiff, h20, e, h, pk_sub (show 1 ≤ S.1 by omega), show nI S.1 - 1 = nI (S.1 - 1) from pk_sub (b := 1) (by omega), nI_clamp (show S.1 - 1 < 2 ^ 31 by omega), vp_in_nI (show S.1 - 1 < 4000 by omega) (by omega), h154 (S.1 - 1) (by omega)]
set_option maxRecDepth 100000 in
theorem tw_q_sfl (hv : tw_pv N pg) (hN : 1 ≤ N) {wi b o wv : Int32} {w : Nat} (hw : 1 ≤ w) (hw2 : w ≤ 20) (u : Nat → Int32) (hu : ∀ p, p < 10 → o ||| (wv >>> (nI p &&& 31) &&& 1) <<< (wi &&& 31) = u p) : ∀ f k (h : Int32) (S : tw_Hs) (mi : tw_I), w * 10 = k + f → tw_MS mi N pg S → S.1 + f ≤ 4000 →
    (∀ mi', tw_MS mi' N pg (tw_sqv pg N (fun k => u (k / w)) f k S h).1 → (∀ a, a ≠ 139 → a ≠ 151 → a ≠ 152 → a ≠ 153 → a ≠ 154 → a ≠ 155 → mi' a = mi a) → (∀ z, z ≠ 20 → mi' 139 z = mi 139 z) → Q (some (.int (tw_sqv pg N (fun k => u (k / w)) f k S h).2)) tw_g0 mi' (tw_r0 t s i)) →
    tw_E sc (d + 3) 171 98 [some (.ref 139), some (.int wi), some (.int (nI w)), some (.int b), some (.int o), some (.int wv), some (.int h), some (.int (nI k))] [] tw_g0 mi (tw_r0 t s i) Q := by
  have em : (10 : Int32) * nI w = nI (w * 10) := by rw [show (10 : Int32) * nI w = nI (10 * w) from pk_mul 10 w, Nat.mul_comm]
  intro f
  induction f with
  | zero =>
    intro k h S mi hk hC hT hQ
    obtain rfl : k = w * 10 := by omega
    rw [tz_171_98]
    simp only [tz_171_0, tz_171_1, tz_171_2, tz_171_5, tz_171_6, tz_171_7, tz_171_8, tz_171_11, tz_171_14, tz_171_17, tz_171_18, tz_171_19, tz_171_20, tz_171_21, tz_171_22, tz_171_25, tz_171_28, tz_171_31, tz_171_32, tz_171_33, tz_171_34, tz_171_37, tz_171_40, tz_171_43, tz_171_45, tz_171_46, tz_171_47, tz_171_50, tz_171_53, tz_171_55, tz_171_56, tz_171_57, tz_171_60, tz_171_62, tz_171_63, tz_171_64, tz_171_65, tz_171_68, tz_171_71, tz_171_73, tz_171_74, tz_171_75, tz_171_76, tz_171_77, tz_171_78, tz_171_81, tz_171_83, tz_171_84, tz_171_85, tz_171_86, tz_171_89, tz_171_90, tz_171_92, tz_171_93, tz_171_95, tz_171_96, tz_171_100, tz_171_102, tz_171_103, tz_171_104, tz_171_107, tz_171_109, tz_171_110, tz_171_112, tz_171_114, tz_171_116, tz_171_117, tz_171_118, tz_171_119, tz_171_120, tz_171_121, tz_171_122, tz_171_123, tz_171_124, tz_171_127, tz_171_128, tz_171_130, tz_171_133, tz_171_136, tz_171_138, em]
    rw [tw_le_t (by omega) (by omega)]
    exact hQ mi hC (fun _ _ _ _ _ _ _ => rfl) (fun _ _ => rfl)
  | succ f ih =>
    intro k h S mi hk hC hT hQ
    have hp : k / w < 10 := Nat.div_lt_of_lt_mul (by omega)
    rw [tz_171_98]
    simp only [tz_171_0, tz_171_1, tz_171_2, tz_171_5, tz_171_6, tz_171_7, tz_171_8, tz_171_11, tz_171_14, tz_171_17, tz_171_18, tz_171_19, tz_171_20, tz_171_21, tz_171_22, tz_171_25, tz_171_28, tz_171_31, tz_171_32, tz_171_33, tz_171_34, tz_171_37, tz_171_40, tz_171_43, tz_171_45, tz_171_46, tz_171_47, tz_171_50, tz_171_53, tz_171_55, tz_171_56, tz_171_57, tz_171_60, tz_171_62, tz_171_63, tz_171_64, tz_171_65, tz_171_68, tz_171_71, tz_171_73, tz_171_74, tz_171_75, tz_171_76, tz_171_77, tz_171_78, tz_171_81, tz_171_83, tz_171_84, tz_171_85, tz_171_86, tz_171_89, tz_171_90, tz_171_92, tz_171_93, tz_171_95, tz_171_96, tz_171_100, tz_171_102, tz_171_103, tz_171_104, tz_171_107, tz_171_109, tz_171_110, tz_171_112, tz_171_114, tz_171_116, tz_171_117, tz_171_118, tz_171_119, tz_171_120, tz_171_121, tz_171_122, tz_171_123, tz_171_124, tz_171_127, tz_171_128, tz_171_130, tz_171_133, tz_171_136, tz_171_138, tk_139, tq_139_1, tq_139_6, tq_139_7, tq_139_8, tq_139_9, tq_139_10, tq_139_12, tq_139_13, tq_139_14, tq_139_15, tq_139_16, tq_139_17, tq_139_18, tq_139_19, tq_139_21, tq_139_22, tq_139_24, tq_139_26, tq_139_27, tq_139_28, tq_139_34, tq_139_35, tq_139_36, tq_139_37, tw_va_s, tw_va_n, tw_K_s, tw_K_n, and_true, true_and, and_false, false_and, true_or, or_true, not_true_eq_false, not_false_eq_true, ↓reduceIte, Nat.reduceEqDiff, em, pk_div (show k < 2 ^ 31 by omega) (show 0 < w by omega) (show w < 2 ^ 31 by omega), nI_ne0 (show 0 < w by omega) (show w < 2 ^ 31 by omega), hu (k / w) hp]
    rw [tw_le_f (by omega) (by omega)]
    refine tw_q_come hv hN (by omega) hC (fun mi' q1 q2 q3 => ?_)
    simp only [tz_171_0, tz_171_1, tz_171_2, tz_171_5, tz_171_6, tz_171_7, tz_171_8, tz_171_11, tz_171_14, tz_171_17, tz_171_18, tz_171_19, tz_171_20, tz_171_21, tz_171_22, tz_171_25, tz_171_28, tz_171_31, tz_171_32, tz_171_33, tz_171_34, tz_171_37, tz_171_40, tz_171_43, tz_171_45, tz_171_46, tz_171_47, tz_171_50, tz_171_53, tz_171_55, tz_171_56, tz_171_57, tz_171_60, tz_171_62, tz_171_63, tz_171_64, tz_171_65, tz_171_68, tz_171_71, tz_171_73, tz_171_74, tz_171_75, tz_171_76, tz_171_77, tz_171_78, tz_171_81, tz_171_83, tz_171_84, tz_171_85, tz_171_86, tz_171_89, tz_171_90, tz_171_92, tz_171_93, tz_171_95, tz_171_96, tz_171_100, tz_171_102, tz_171_103, tz_171_104, tz_171_107, tz_171_109, tz_171_110, tz_171_112, tz_171_114, tz_171_116, tz_171_117, tz_171_118, tz_171_119, tz_171_120, tz_171_121, tz_171_122, tz_171_123, tz_171_124, tz_171_127, tz_171_128, tz_171_130, tz_171_133, tz_171_136, tz_171_138, tw_va_s, tw_va_n, tw_K_s, tw_K_n, and_true, true_and, and_false, false_and, true_or, or_true, not_true_eq_false, not_false_eq_true, ↓reduceIte, Nat.reduceEqDiff, nI_1]
    exact ih (k + 1) _ (tw_cm pg N (u (k / w)) S) mi' (by omega) q1 (by show S.1 + 1 + f ≤ 4000; omega) (fun mi2 r1 r2 r3 => hQ mi2 r1 (fun a h1 h2 h3 h4 h5 h6 => by rw [r2 a h1 h2 h3 h4 h5 h6, q2 a h1 h2 h3 h4 h5 h6]) (fun z hz => by rw [r3 z hz, q3 z hz]))
set_option maxRecDepth 100000 in
theorem tw_q_sendf (hv : tw_pv N pg) (hC : tw_MS mi N pg S) (hI : tw_is mi N) (wi k b : Int32)
    (hQ : ∀ mi', tw_MS mi' N pg (tw_sdf N pg S wi k b).1 → (∀ a, a ≠ 139 → a ≠ 151 → a ≠ 152 → a ≠ 153 → a ≠ 154 → a ≠ 155 → mi' a = mi a) → (∀ z, z ≠ 0 → z ≠ 20 → mi' 139 z = mi 139 z) → Q (some (.int (tw_sdf N pg S wi k b).2)) tw_g0 mi' (tw_r0 t s i)) :
    tw_E sc (d + 3) 171 0 [some (.ref 139), some (.int wi), some (.int k), some (.int b), none, none, none, none] [] tw_g0 mi (tw_r0 t s i) Q := by
  have hth := tw_MS_th hC
  have c20 : mi 139 20 = nI S.1 := hC.1.2.1
  have hS4 : S.1 ≤ 4000 := hC.1.1
  unfold tw_is at hI
  rw [tz_171_0, tz_171_1, tz_171_2]
  refine ⟨tk_139, ?_⟩
  rw [show tw_st mi 139 (tw_st (mi 139) 0 0) = tw_th mi from rfl]
  have e4 : tw_th mi 139 4 = mi 139 4 := tw_th_x mi (by decide)
  have e20 : tw_th mi 139 20 = mi 139 20 := tw_th_x mi (by decide)
  simp only [tz_171_0, tz_171_1, tz_171_2, tz_171_5, tz_171_6, tz_171_7, tz_171_8, tz_171_11, tz_171_14, tz_171_17, tz_171_18, tz_171_19, tz_171_20, tz_171_21, tz_171_22, tz_171_25, tz_171_28, tz_171_31, tz_171_32, tz_171_33, tz_171_34, tz_171_37, tz_171_40, tz_171_43, tz_171_45, tz_171_46, tz_171_47, tz_171_50, tz_171_53, tz_171_55, tz_171_56, tz_171_57, tz_171_60, tz_171_62, tz_171_63, tz_171_64, tz_171_65, tz_171_68, tz_171_71, tz_171_73, tz_171_74, tz_171_75, tz_171_76, tz_171_77, tz_171_78, tz_171_81, tz_171_83, tz_171_84, tz_171_85, tz_171_86, tz_171_89, tz_171_90, tz_171_92, tz_171_93, tz_171_95, tz_171_96, tz_171_100, tz_171_102, tz_171_103, tz_171_104, tz_171_107, tz_171_109, tz_171_110, tz_171_112, tz_171_114, tz_171_116, tz_171_117, tz_171_118, tz_171_119, tz_171_120, tz_171_121, tz_171_122, tz_171_123, tz_171_124, tz_171_127, tz_171_128, tz_171_130, tz_171_133, tz_171_136, tz_171_138, tk_139, tq_139_1, tq_139_6, tq_139_7, tq_139_8, tq_139_9, tq_139_10, tq_139_12, tq_139_13, tq_139_14, tq_139_15, tq_139_16, tq_139_17, tq_139_18, tq_139_19, tq_139_21, tq_139_22, tq_139_24, tq_139_26, tq_139_27, tq_139_28, tq_139_34, tq_139_35, tq_139_36, tq_139_37, tw_va_s, tw_va_n, tw_K_s, tw_K_n, and_true, true_and, and_false, false_and, true_or, or_true, not_true_eq_false, not_false_eq_true, ↓reduceIte, Nat.reduceEqDiff, tw_L0, tw_L1, tw_L15, tw_L20, tw_L255, tw_q_in, tw_b0, e4, e20, c20, hI]
  have hq0 : ∀ r, tw_sdf N pg S wi k b = (S, r) → Q (some (.int r)) tw_g0 (tw_th mi) (tw_r0 t s i) := by
    intro r e
    rw [e] at hQ
    exact hQ _ hth (fun a b1 _ _ _ _ _ => tw_th_a mi b1) (fun z b0 _ => tw_th_x mi b0)
  by_cases h1 : 0 ≤ wi ∧ wi ≤ 15
  · simp only [h1, and_self, not_true_eq_false, not_false_eq_true, ↓reduceIte]
    by_cases h2 : (1 ≤ k ∧ k ≤ 20) ∧ (0 ≤ b ∧ b ≤ 255)
    · have e : tw_sdf N pg S wi k b = (if tw_rfu N S (10 * k.toNatClampNeg) = 0 then tw_fdv pg N (tw_uf S ((1 : Int32) <<< (wi &&& 31)) b) k.toNatClampNeg 10 0 S 0 else (S, tw_rfu N S (10 * k.toNatClampNeg))) := by unfold tw_sdf; rw [if_pos h1, if_pos h2]
      rw [e] at hQ hq0
      obtain ⟨⟨k1, k2⟩, b1, b2⟩ := h2
      obtain ⟨w, m0, m1, rfl⟩ := tw_rng (lo := 1) (hi := 20) (by omega) (by omega) k1 k2
      rw [nI_clamp (by omega)] at hQ hq0
      have em : (10 : Int32) * nI w = nI (10 * w) := pk_mul 10 w
      simp only [k1, k2, b1, b2, and_self, not_true_eq_false, not_false_eq_true, ↓reduceIte, em, nI_add]
      by_cases h0 : N = 0
      · have e0 : tw_rfu N S (10 * w) = -3 := if_pos h0
        rw [e0, if_neg (by decide)] at hq0
        simp only [h0, ↓reduceIte]
        exact hq0 _ rfl
      · simp only [h0, ↓reduceIte, show ¬ (1 : Int32) = 0 by decide, not_false_eq_true]
        by_cases h3 : S.1 + 10 * w ≤ 4000
        · have e0 : tw_rfu N S (10 * w) = 0 := by unfold tw_rfu; rw [if_neg h0, if_neg (by omega)]
          rw [e0, if_pos rfl] at hQ
          have c4 : nI (S.1 + 10 * w) ≤ 4000 := nI_le (b := 4000) h3 (by omega)
          rw [if_pos c4, tw_q_others hth]
          simp only [tz_171_0, tz_171_1, tz_171_2, tz_171_5, tz_171_6, tz_171_7, tz_171_8, tz_171_11, tz_171_14, tz_171_17, tz_171_18, tz_171_19, tz_171_20, tz_171_21, tz_171_22, tz_171_25, tz_171_28, tz_171_31, tz_171_32, tz_171_33, tz_171_34, tz_171_37, tz_171_40, tz_171_43, tz_171_45, tz_171_46, tz_171_47, tz_171_50, tz_171_53, tz_171_55, tz_171_56, tz_171_57, tz_171_60, tz_171_62, tz_171_63, tz_171_64, tz_171_65, tz_171_68, tz_171_71, tz_171_73, tz_171_74, tz_171_75, tz_171_76, tz_171_77, tz_171_78, tz_171_81, tz_171_83, tz_171_84, tz_171_85, tz_171_86, tz_171_89, tz_171_90, tz_171_92, tz_171_93, tz_171_95, tz_171_96, tz_171_100, tz_171_102, tz_171_103, tz_171_104, tz_171_107, tz_171_109, tz_171_110, tz_171_112, tz_171_114, tz_171_116, tz_171_117, tz_171_118, tz_171_119, tz_171_120, tz_171_121, tz_171_122, tz_171_123, tz_171_124, tz_171_127, tz_171_128, tz_171_130, tz_171_133, tz_171_136, tz_171_138, tw_va_s, tw_va_n, tw_K_s, tw_K_n, and_true, true_and, and_false, false_and, true_or, or_true, not_true_eq_false, not_false_eq_true, ↓reduceIte, Nat.reduceEqDiff, show (0 : Int32) = nI 0 from rfl]
          rw [← tw_fdv_q pg N _ m0 10 0 S 0] at hQ
          exact tw_q_sfl hv (by omega) m0 m1 (tw_uf S ((1 : Int32) <<< (wi &&& 31)) b) (fun p hp => tw_q_wv h1.1 h1.2 b1 b2 hp) (w * 10) 0 0 S _ (by omega) hth (by omega) (fun mi' w1 w2 w3 => hQ mi' w1 (fun a b1 b2 b3 b4 b5 b6 => by rw [w2 a b1 b2 b3 b4 b5 b6, tw_th_a mi b1]) (fun z b0 b1 => by rw [w3 z b1, tw_th_x mi b0]))
        · have e0 : tw_rfu N S (10 * w) = -4 := by unfold tw_rfu; rw [if_neg h0, if_pos (by omega)]
          rw [e0, if_neg (by decide)] at hq0
          have c4 : ¬ nI (S.1 + 10 * w) ≤ 4000 := nI_ge (a := 4000) (by omega) (by omega)
          rw [if_neg c4]
          exact hq0 _ rfl
    · have e : tw_sdf N pg S wi k b = (S, -2) := by unfold tw_sdf; rw [if_pos h1, if_neg h2]
      by_cases q1 : 1 ≤ k ∧ k ≤ 20
      · have q2 : ¬ (0 ≤ b ∧ b ≤ 255) := fun z => h2 ⟨q1, z⟩
        simp only [q1, q2, and_self, not_true_eq_false, not_false_eq_true, ↓reduceIte]
        exact hq0 _ e
      · simp only [q1, not_true_eq_false, not_false_eq_true, ↓reduceIte]
        exact hq0 _ e
  · have e : tw_sdf N pg S wi k b = (S, -1) := by unfold tw_sdf; rw [if_neg h1]
    simp only [h1, not_false_eq_true, ↓reduceIte]
    exact hq0 _ e
end tw_msendf
