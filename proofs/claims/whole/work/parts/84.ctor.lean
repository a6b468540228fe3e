/-! both objects are made: what there is meanwhile -/
/-- the cells that are made, A of them -/
def tw_gA (A S : Nat) : tw_G := (A, S, fun a => if a < A then tw_gl.getD a (99, 0) else (99, 0))
/-- the references that are set -/
def tw_rm (u v : Nat) (L : List (Nat × Nat × Nat)) : tw_Q := fun a k => if a = 2 ∧ k < u then some (3 + k) else if a = 64 ∧ k < v then some (65 + k) else (L.find? (fun q => q.1 == a && q.2.1 == k)).map (fun q => q.2.2)
def tw_i9 : tw_I := fun _ _ => 0
/-- and once the reader is made -/
def tw_i0 : tw_I := fun a k => if a = 127 ∧ (k = 6 ∨ k = 7) then -9 else 0
set_option maxRecDepth 100000 in
theorem tw_gA_1 (A S : Nat) : (tw_gA A S).1 = A := rfl
set_option maxRecDepth 100000 in
theorem tw_gnA {A S k n s : Nat} (h : tw_gl.getD A (99, 0) = (k, n)) : tw_gn (tw_gA A S) k n s = tw_gA (A + 1) (S + s) := by
  unfold tw_gn tw_gA
  refine Prod.ext rfl (Prod.ext rfl (funext fun a => ?_))
  show tw_st _ A (k, n) a = if a < A + 1 then tw_gl.getD a (99, 0) else (99, 0)
  by_cases e : a = A
  · rw [e, tw_st_s, if_pos (by omega), h]
  · rw [tw_st_n _ _ e]
    show (if a < A then tw_gl.getD a (99, 0) else (99, 0)) = _
    by_cases l : a < A
    · rw [if_pos l, if_pos (by omega)]
    · rw [if_neg l, if_neg (by omega)]
set_option maxRecDepth 100000 in
theorem tw_gl_len : tw_gl.length = 164 := rfl
set_option maxRecDepth 100000 in
theorem tw_gA_e : tw_gA 164 22772 = tw_g0 := by
  unfold tw_gA tw_g0
  refine Prod.ext rfl (Prod.ext rfl (funext fun a => ?_))
  show (if a < 164 then tw_gl.getD a (99, 0) else (99, 0)) = tw_gl.getD a (99, 0)
  by_cases l : a < 164
  · rw [if_pos l]
  · rw [if_neg l, List.getD_eq_getElem?_getD, List.getElem?_eq_none (by rw [tw_gl_len]; omega)]
    rfl
set_option maxRecDepth 100000 in
theorem tw_gA_0 : ((0, 0, fun _ => (99, 0)) : tw_G) = tw_gA 0 0 := by
  unfold tw_gA
  refine Prod.ext rfl (Prod.ext rfl (funext fun a => ?_))
  show (99, 0) = (if a < 0 then tw_gl.getD a (99, 0) else (99, 0))
  rw [if_neg (by omega)]
set_option maxRecDepth 100000 in
theorem tw_kdA {A S a : Nat} (h : a < A) : tw_kd (tw_gA A S) a = tw_kd tw_g0 a := by
  unfold tw_kd tw_gA tw_g0
  show (if a < A then tw_gl.getD a (99, 0) else (99, 0)).1 = _
  rw [if_pos h]
set_option maxRecDepth 100000 in
theorem tw_lnA {A S a : Nat} (h : a < A) : tw_ln (tw_gA A S) a = tw_ln tw_g0 a := by
  unfold tw_ln tw_gA tw_g0
  show (if a < A then tw_gl.getD a (99, 0) else (99, 0)).2 = _
  rw [if_pos h]
set_option maxRecDepth 100000 in
theorem tw_rmN {u v A : Nat} {L : List (Nat × Nat × Nat)} (h : L.all (fun q => q.1 != A) = true) (h2 : A ≠ 2 ∨ u = 0) (h3 : A ≠ 64 ∨ v = 0) : tw_st (tw_rm u v L) A (fun _ => none) = tw_rm u v L := by
  funext a k
  by_cases e : a = A
  · subst e
    rw [tw_st_s]
    unfold tw_rm
    rw [if_neg (by omega), if_neg (by omega), List.find?_eq_none.mpr]
    · rfl
    · intro q hq
      have := List.all_eq_true.mp h q hq
      simp only [bne_iff_ne, ne_eq] at this
      simp [this]
  · rw [tw_st_n _ _ e]
set_option maxRecDepth 100000 in
theorem tw_rmP {u v a k b : Nat} {L : List (Nat × Nat × Nat)} (h2 : a ≠ 2) (h3 : a ≠ 64) : tw_st (tw_rm u v L) a (tw_st (tw_rm u v L a) k (some b)) = tw_rm u v ((a, k, b) :: L) := by
  funext x y
  by_cases e : x = a
  · subst e
    rw [tw_st_s]
    by_cases f : y = k
    · subst f
      rw [tw_st_s]
      unfold tw_rm
      rw [if_neg (by omega), if_neg (by omega)]
      simp
    · rw [tw_st_n _ _ f]
      unfold tw_rm
      rw [if_neg (by omega), if_neg (by omega), if_neg (by omega), if_neg (by omega)]
      have : (k == y) = false := by simp; omega
      simp [this]
  · rw [tw_st_n _ _ e]
    unfold tw_rm
    have : (a == x) = false := by simp; omega
    simp [this]
set_option maxRecDepth 100000 in
theorem tw_rmA {v k : Nat} {L : List (Nat × Nat × Nat)} : tw_st (tw_rm k v L) 2 (tw_st (tw_rm k v L 2) k (some (3 + k))) = tw_rm (k + 1) v L := by
  funext x y
  by_cases e : x = 2
  · subst e
    rw [tw_st_s]
    by_cases f : y = k
    · subst f
      rw [tw_st_s]
      unfold tw_rm
      rw [if_pos ⟨rfl, by omega⟩]
    · rw [tw_st_n _ _ f]
      unfold tw_rm
      by_cases g : y < k
      · rw [if_pos ⟨rfl, g⟩, if_pos ⟨rfl, by omega⟩]
      · rw [if_neg (fun z => g z.2), if_neg (show ¬ (2 = 2 ∧ y < k + 1) by omega)]
  · rw [tw_st_n _ _ e]
    unfold tw_rm
    rw [if_neg (fun z => e z.1), if_neg (show ¬ (x = 2 ∧ y < k + 1) from fun z => e z.1)]
set_option maxRecDepth 100000 in
theorem tw_rmB {u k : Nat} {L : List (Nat × Nat × Nat)} : tw_st (tw_rm u k L) 64 (tw_st (tw_rm u k L 64) k (some (65 + k))) = tw_rm u (k + 1) L := by
  funext x y
  by_cases e : x = 64
  · subst e
    rw [tw_st_s]
    by_cases f : y = k
    · subst f
      rw [tw_st_s]
      unfold tw_rm
      rw [if_neg (by omega), if_pos ⟨rfl, by omega⟩]
    · rw [tw_st_n _ _ f]
      unfold tw_rm
      rw [if_neg (show ¬ (64 = 2 ∧ y < u) by omega), if_neg (show ¬ (64 = 2 ∧ y < u) by omega)]
      by_cases g : y < k
      · rw [if_pos ⟨rfl, g⟩, if_pos ⟨rfl, by omega⟩]
      · rw [if_neg (fun z => g z.2), if_neg (show ¬ (64 = 64 ∧ y < k + 1) by omega)]
  · rw [tw_st_n _ _ e]
    unfold tw_rm
    by_cases g : x = 2 ∧ y < u
    · rw [if_pos g, if_pos g]
    · rw [if_neg g, if_neg g, if_neg (fun z => e z.1), if_neg (show ¬ (x = 64 ∧ y < k + 1) from fun z => e z.1)]
set_option maxRecDepth 100000 in
theorem tw_i9N (A : Nat) : tw_st tw_i9 A (fun _ => 0) = tw_i9 := by
  funext a k
  by_cases e : a = A
  · rw [e, tw_st_s]; rfl
  · rw [tw_st_n _ _ e]
set_option maxRecDepth 100000 in
theorem tw_i0N {A : Nat} (h : A ≠ 127) : tw_st tw_i0 A (fun _ => 0) = tw_i0 := by
  funext a k
  by_cases e : a = A
  · subst e
    rw [tw_st_s]
    unfold tw_i0
    rw [if_neg (fun z => h z.1)]
  · rw [tw_st_n _ _ e]
set_option maxRecDepth 100000 in
theorem tw_i0_e : tw_st tw_i9 127 (tw_st (tw_st (tw_i9 127) 6 (-9)) 7 (-9)) = tw_i0 := by
  funext a k
  unfold tw_i0
  by_cases e : a = 127
  · subst e
    rw [tw_st_s]
    by_cases f : k = 7
    · subst f; rw [tw_st_s]; rfl
    · rw [tw_st_n _ _ f]
      by_cases g : k = 6
      · subst g; rw [tw_st_s]; rfl
      · rw [tw_st_n _ _ g, if_neg (by omega)]; rfl
  · rw [tw_st_n _ _ e, if_neg (fun z => e z.1)]; rfl
set_option maxRecDepth 100000 in
theorem tgn_0 : tw_gn (tw_gA 0 0) 0 0 9 = tw_gA 1 9 := tw_gnA rfl
set_option maxRecDepth 100000 in
theorem tgn_1 : tw_gn (tw_gA 1 9) 1 0 2 = tw_gA 2 11 := tw_gnA rfl
set_option maxRecDepth 100000 in
theorem tgn_2 : tw_gn (tw_gA 2 11) 22 60 60 = tw_gA 3 71 := tw_gnA rfl
set_option maxRecDepth 100000 in
theorem tgn_63 : tw_gn (tw_gA 63 551) 1 0 2 = tw_gA 64 553 := tw_gnA rfl
set_option maxRecDepth 100000 in
theorem tgn_64 : tw_gn (tw_gA 64 553) 22 60 60 = tw_gA 65 613 := tw_gnA rfl
set_option maxRecDepth 100000 in
theorem tgn_125 : tw_gn (tw_gA 125 1093) 3 0 2 = tw_gA 126 1095 := tw_gnA rfl
set_option maxRecDepth 100000 in
theorem tgn_126 : tw_gn (tw_gA 126 1095) 20 60 60 = tw_gA 127 1155 := tw_gnA rfl
set_option maxRecDepth 100000 in
theorem tgn_127 : tw_gn (tw_gA 127 1155) 4 0 8 = tw_gA 128 1163 := tw_gnA rfl
set_option maxRecDepth 100000 in
theorem tgn_128 : tw_gn (tw_gA 128 1163) 5 0 4 = tw_gA 129 1167 := tw_gnA rfl
set_option maxRecDepth 100000 in
theorem tgn_129 : tw_gn (tw_gA 129 1167) 20 4000 4000 = tw_gA 130 5167 := tw_gnA rfl
set_option maxRecDepth 100000 in
theorem tgn_130 : tw_gn (tw_gA 130 5167) 21 4000 4000 = tw_gA 131 9167 := tw_gnA rfl
set_option maxRecDepth 100000 in
theorem tgn_131 : tw_gn (tw_gA 131 9167) 6 0 2 = tw_gA 132 9169 := tw_gnA rfl
set_option maxRecDepth 100000 in
theorem tgn_132 : tw_gn (tw_gA 132 9169) 20 1001 1001 = tw_gA 133 10170 := tw_gnA rfl
set_option maxRecDepth 100000 in
theorem tgn_133 : tw_gn (tw_gA 133 10170) 7 0 4 = tw_gA 134 10174 := tw_gnA rfl
set_option maxRecDepth 100000 in
theorem tgn_134 : tw_gn (tw_gA 134 10174) 20 400 400 = tw_gA 135 10574 := tw_gnA rfl
set_option maxRecDepth 100000 in
theorem tgn_135 : tw_gn (tw_gA 135 10574) 20 400 400 = tw_gA 136 10974 := tw_gnA rfl
set_option maxRecDepth 100000 in
theorem tgn_136 : tw_gn (tw_gA 136 10974) 20 400 400 = tw_gA 137 11374 := tw_gnA rfl
set_option maxRecDepth 100000 in
theorem tgn_137 : tw_gn (tw_gA 137 11374) 8 0 2 = tw_gA 138 11376 := tw_gnA rfl
set_option maxRecDepth 100000 in
theorem tgn_138 : tw_gn (tw_gA 138 11376) 9 0 6 = tw_gA 139 11382 := tw_gnA rfl
set_option maxRecDepth 100000 in
theorem tgn_139 : tw_gn (tw_gA 139 11382) 10 0 41 = tw_gA 140 11423 := tw_gnA rfl
set_option maxRecDepth 100000 in
theorem tgn_140 : tw_gn (tw_gA 140 11423) 20 60 60 = tw_gA 141 11483 := tw_gnA rfl
set_option maxRecDepth 100000 in
theorem tgn_141 : tw_gn (tw_gA 141 11483) 20 64 64 = tw_gA 142 11547 := tw_gnA rfl
set_option maxRecDepth 100000 in
theorem tgn_142 : tw_gn (tw_gA 142 11547) 20 64 64 = tw_gA 143 11611 := tw_gnA rfl
set_option maxRecDepth 100000 in
theorem tgn_143 : tw_gn (tw_gA 143 11611) 20 64 64 = tw_gA 144 11675 := tw_gnA rfl
set_option maxRecDepth 100000 in
theorem tgn_144 : tw_gn (tw_gA 144 11675) 20 64 64 = tw_gA 145 11739 := tw_gnA rfl
set_option maxRecDepth 100000 in
theorem tgn_145 : tw_gn (tw_gA 145 11739) 20 64 64 = tw_gA 146 11803 := tw_gnA rfl
set_option maxRecDepth 100000 in
theorem tgn_146 : tw_gn (tw_gA 146 11803) 20 64 64 = tw_gA 147 11867 := tw_gnA rfl
set_option maxRecDepth 100000 in
theorem tgn_147 : tw_gn (tw_gA 147 11867) 20 64 64 = tw_gA 148 11931 := tw_gnA rfl
set_option maxRecDepth 100000 in
theorem tgn_148 : tw_gn (tw_gA 148 11931) 20 64 64 = tw_gA 149 11995 := tw_gnA rfl
set_option maxRecDepth 100000 in
theorem tgn_149 : tw_gn (tw_gA 149 11995) 20 64 64 = tw_gA 150 12059 := tw_gnA rfl
set_option maxRecDepth 100000 in
theorem tgn_150 : tw_gn (tw_gA 150 12059) 20 64 64 = tw_gA 151 12123 := tw_gnA rfl
set_option maxRecDepth 100000 in
theorem tgn_151 : tw_gn (tw_gA 151 12123) 21 64 64 = tw_gA 152 12187 := tw_gnA rfl
set_option maxRecDepth 100000 in
theorem tgn_152 : tw_gn (tw_gA 152 12187) 20 64 64 = tw_gA 153 12251 := tw_gnA rfl
set_option maxRecDepth 100000 in
theorem tgn_153 : tw_gn (tw_gA 153 12251) 20 64 64 = tw_gA 154 12315 := tw_gnA rfl
set_option maxRecDepth 100000 in
theorem tgn_154 : tw_gn (tw_gA 154 12315) 20 4000 4000 = tw_gA 155 16315 := tw_gnA rfl
set_option maxRecDepth 100000 in
theorem tgn_155 : tw_gn (tw_gA 155 16315) 21 4000 4000 = tw_gA 156 20315 := tw_gnA rfl
set_option maxRecDepth 100000 in
theorem tgn_156 : tw_gn (tw_gA 156 20315) 20 1001 1001 = tw_gA 157 21316 := tw_gnA rfl
set_option maxRecDepth 100000 in
theorem tgn_157 : tw_gn (tw_gA 157 21316) 20 400 400 = tw_gA 158 21716 := tw_gnA rfl
set_option maxRecDepth 100000 in
theorem tgn_158 : tw_gn (tw_gA 158 21716) 20 400 400 = tw_gA 159 22116 := tw_gnA rfl
set_option maxRecDepth 100000 in
theorem tgn_159 : tw_gn (tw_gA 159 22116) 20 400 400 = tw_gA 160 22516 := tw_gnA rfl
set_option maxRecDepth 100000 in
theorem tgn_160 : tw_gn (tw_gA 160 22516) 20 64 64 = tw_gA 161 22580 := tw_gnA rfl
set_option maxRecDepth 100000 in
theorem tgn_161 : tw_gn (tw_gA 161 22580) 20 64 64 = tw_gA 162 22644 := tw_gnA rfl
set_option maxRecDepth 100000 in
theorem tgn_162 : tw_gn (tw_gA 162 22644) 20 64 64 = tw_gA 163 22708 := tw_gnA rfl
set_option maxRecDepth 100000 in
theorem tgn_163 : tw_gn (tw_gA 163 22708) 20 64 64 = tw_gA 164 22772 := tw_gnA rfl
section tw_ctor
variable {sc : Nat × (Nat → Int32)} {d : Nat} {Q : Option Value → tw_G → tw_I → tw_Q → Prop}
set_option maxRecDepth 10000 in
set_option maxRecDepth 100000 in
theorem tw_gl1 : ∀ k, k < 60 → tw_gl.getD (3 + k) (99, 0) = (2, 0) ∧ tw_kd tw_g0 (3 + k) = 2 := by decide +kernel
set_option maxRecDepth 100000 in
theorem tw_c_tri1l : ∀ f k, 60 = k + f → tw_E sc (d + 2) 35 15 [some (.ref 1), some (.int (nI k))] [] (tw_gA (3 + k) (71 + 8 * k)) tw_i9 (tw_rm k 0 [(1, 0, 2)]) Q = Q none (tw_gA (3 + 60) (71 + 480)) tw_i9 (tw_rm 60 0 [(1, 0, 2)]) := by
  intro f
  induction f with
  | zero =>
    intro k hk
    obtain rfl : k = 60 := by omega
    rw [tz_35_15]
    simp only [tz_35_0, tz_35_1, tz_35_4, tz_35_5, tz_35_7, tz_35_10, tz_35_13, tz_35_14, tz_35_16, tz_35_18, tz_35_21, tz_35_22, tz_35_25, tz_35_26, tz_35_29, tz_35_30, tz_35_33, tz_35_34, tz_35_37, tz_35_40, tw_va_s, tw_va_n, tw_K_s, tw_K_n, and_true, true_and, and_false, false_and, true_or, or_true, not_true_eq_false, not_false_eq_true, ↓reduceIte, Nat.reduceEqDiff, tl60]
    rw [tw_le_t (by omega) (by omega)]
  | succ f ih =>
    intro k hk
    have hg := tw_gl1 k (by omega)
    have kA : ∀ a S, a < 3 → tw_kd (tw_gA (3 + k) S) a = tw_kd tw_g0 a := fun a S h => tw_kdA (by omega)
    have kB : ∀ a S, a < 3 → tw_kd (tw_gA (3 + k + 1) S) a = tw_kd tw_g0 a := fun a S h => tw_kdA (by omega)
    have kC : tw_kd (tw_gA (3 + k + 1) (71 + 8 * k + 8)) (3 + k) = 2 := by rw [tw_kdA (by omega)]; exact hg.2
    have lB : tw_ln (tw_gA (3 + k + 1) (71 + 8 * k + 8)) 2 = 60 := tw_lnA (a := 2) (by omega)
    have rA : tw_rm k 0 [(1, 0, 2)] 1 0 = some 2 := rfl
    have rN : tw_st (tw_rm k 0 [(1, 0, 2)]) (3 + k) (fun _ => none) = tw_rm k 0 [(1, 0, 2)] := tw_rmN (by simp; omega) (by omega) (by omega)
    rw [tz_35_15]
    simp only [tz_35_0, tz_35_1, tz_35_4, tz_35_5, tz_35_7, tz_35_10, tz_35_13, tz_35_14, tz_35_16, tz_35_18, tz_35_21, tz_35_22, tz_35_25, tz_35_26, tz_35_29, tz_35_30, tz_35_33, tz_35_34, tz_35_37, tz_35_40, tz_44_0, tz_44_1, tz_44_4, tw_va_s, tw_va_n, tw_K_s, tw_K_n, and_true, true_and, and_false, false_and, true_or, or_true, not_true_eq_false, not_false_eq_true, ↓reduceIte, Nat.reduceEqDiff, tl60, tw_gA_1, kA 1 _ (by omega), tk_1, rA, tw_gnA hg.1, tw_i9N, rN]
    rw [tw_le_f (by omega) (by omega)]
    simp only [tz_35_0, tz_35_1, tz_35_4, tz_35_5, tz_35_7, tz_35_10, tz_35_13, tz_35_14, tz_35_16, tz_35_18, tz_35_21, tz_35_22, tz_35_25, tz_35_26, tz_35_29, tz_35_30, tz_35_33, tz_35_34, tz_35_37, tz_35_40, tw_va_s, tw_va_n, tw_K_s, tw_K_n, and_true, true_and, and_false, false_and, true_or, or_true, not_true_eq_false, not_false_eq_true, ↓reduceIte, Nat.reduceEqDiff, kB 2 _ (by omega), tk_2, kC, lB, vp_in_nI (show k < 60 by omega) (by omega), nI_clamp (show k < 2 ^ 31 by omega), tw_rmA, nI_1]
    have z := ih (k + 1) (by omega)
    rw [show 71 + 8 * (k + 1) = 71 + 8 * k + 8 by omega, ← Nat.add_assoc] at z
    exact z
set_option maxRecDepth 100000 in
theorem tw_c_tri1 : tw_E sc (d + 2) 35 0 [some (.ref 1), none] [] (tw_gA 2 11) tw_i9 (tw_rm 0 0 []) Q = Q none (tw_gA (3 + 60) (71 + 480)) tw_i9 (tw_rm 60 0 [(1, 0, 2)]) := by
  have rN : tw_st (tw_rm 0 0 []) 2 (fun _ => none) = tw_rm 0 0 [] := tw_rmN (by decide) (by decide) (by decide)
  have rP : tw_st (tw_rm 0 0 []) 1 (tw_st (tw_rm 0 0 [] 1) 0 (some 2)) = tw_rm 0 0 [(1, 0, 2)] := tw_rmP (by decide) (by decide)
  have kA : tw_kd (tw_gA 3 71) 1 = 1 := tw_kdA (a := 1) (by omega)
  simp only [tz_35_0, tz_35_1, tz_35_4, tz_35_5, tz_35_7, tz_35_10, tz_35_13, tz_35_14, tz_35_16, tz_35_18, tz_35_21, tz_35_22, tz_35_25, tz_35_26, tz_35_29, tz_35_30, tz_35_33, tz_35_34, tz_35_37, tz_35_40, tw_va_s, tw_va_n, tw_K_s, tw_K_n, and_true, true_and, and_false, false_and, true_or, or_true, not_true_eq_false, not_false_eq_true, ↓reduceIte, Nat.reduceEqDiff, tw_gA_1, tgn_2, tw_i9N, rN, rP, kA]
  have z := tw_c_tri1l (sc := sc) (d := d) (Q := Q) 60 0 rfl
  exact z
set_option maxRecDepth 10000 in
set_option maxRecDepth 100000 in
theorem tw_gl63 : ∀ k, k < 60 → tw_gl.getD (65 + k) (99, 0) = (2, 0) ∧ tw_kd tw_g0 (65 + k) = 2 := by decide +kernel
set_option maxRecDepth 100000 in
theorem tw_c_tri63l : ∀ f k, 60 = k + f → tw_E sc (d + 2) 35 15 [some (.ref 63), some (.int (nI k))] [] (tw_gA (65 + k) (613 + 8 * k)) tw_i9 (tw_rm 60 k [(63, 0, 64), (0, 7, 1), (1, 0, 2)]) Q = Q none (tw_gA (65 + 60) (613 + 480)) tw_i9 (tw_rm 60 60 [(63, 0, 64), (0, 7, 1), (1, 0, 2)]) := by
  intro f
  induction f with
  | zero =>
    intro k hk
    obtain rfl : k = 60 := by omega
    rw [tz_35_15]
    simp only [tz_35_0, tz_35_1, tz_35_4, tz_35_5, tz_35_7, tz_35_10, tz_35_13, tz_35_14, tz_35_16, tz_35_18, tz_35_21, tz_35_22, tz_35_25, tz_35_26, tz_35_29, tz_35_30, tz_35_33, tz_35_34, tz_35_37, tz_35_40, tw_va_s, tw_va_n, tw_K_s, tw_K_n, and_true, true_and, and_false, false_and, true_or, or_true, not_true_eq_false, not_false_eq_true, ↓reduceIte, Nat.reduceEqDiff, tl60]
    rw [tw_le_t (by omega) (by omega)]
  | succ f ih =>
    intro k hk
    have hg := tw_gl63 k (by omega)
    have kA : ∀ a S, a < 65 → tw_kd (tw_gA (65 + k) S) a = tw_kd tw_g0 a := fun a S h => tw_kdA (by omega)
    have kB : ∀ a S, a < 65 → tw_kd (tw_gA (65 + k + 1) S) a = tw_kd tw_g0 a := fun a S h => tw_kdA (by omega)
    have kC : tw_kd (tw_gA (65 + k + 1) (613 + 8 * k + 8)) (65 + k) = 2 := by rw [tw_kdA (by omega)]; exact hg.2
    have lB : tw_ln (tw_gA (65 + k + 1) (613 + 8 * k + 8)) 64 = 60 := tw_lnA (a := 64) (by omega)
    have rA : tw_rm 60 k [(63, 0, 64), (0, 7, 1), (1, 0, 2)] 63 0 = some 64 := rfl
    have rN : tw_st (tw_rm 60 k [(63, 0, 64), (0, 7, 1), (1, 0, 2)]) (65 + k) (fun _ => none) = tw_rm 60 k [(63, 0, 64), (0, 7, 1), (1, 0, 2)] := tw_rmN (by simp; omega) (by omega) (by omega)
    rw [tz_35_15]
    simp only [tz_35_0, tz_35_1, tz_35_4, tz_35_5, tz_35_7, tz_35_10, tz_35_13, tz_35_14, tz_35_16, tz_35_18, tz_35_21, tz_35_22, tz_35_25, tz_35_26, tz_35_29, tz_35_30, tz_35_33, tz_35_34, tz_35_37, tz_35_40, tz_44_0, tz_44_1, tz_44_4, tw_va_s, tw_va_n, tw_K_s, tw_K_n, and_true, true_and, and_false, false_and, true_or, or_true, not_true_eq_false, not_false_eq_true, ↓reduceIte, Nat.reduceEqDiff, tl60, tw_gA_1, kA 63 _ (by omega), tk_63, rA, tw_gnA hg.1, tw_i9N, rN]
    rw [tw_le_f (by omega) (by omega)]
    simp only [tz_35_0, tz_35_1, tz_35_4, tz_35_5, tz_35_7, tz_35_10, tz_35_13, tz_35_14, tz_35_16, tz_35_18, tz_35_21, tz_35_22, tz_35_25, tz_35_26, tz_35_29, tz_35_30, tz_35_33, tz_35_34, tz_35_37, tz_35_40, tw_va_s, tw_va_n, tw_K_s, tw_K_n, and_true, true_and, and_false, false_and, true_or, or_true, not_true_eq_false, not_false_eq_true, ↓reduceIte, Nat.reduceEqDiff, kB 64 _ (by omega), tk_64, kC, lB, vp_in_nI (show k < 60 by omega) (by omega), nI_clamp (show k < 2 ^ 31 by omega), tw_rmB, nI_1]
    have z := ih (k + 1) (by omega)
    rw [show 613 + 8 * (k + 1) = 613 + 8 * k + 8 by omega, ← Nat.add_assoc] at z
    exact z
set_option maxRecDepth 100000 in
theorem tw_c_tri63 : tw_E sc (d + 2) 35 0 [some (.ref 63), none] [] (tw_gA 64 553) tw_i9 (tw_rm 60 0 [(0, 7, 1), (1, 0, 2)]) Q = Q none (tw_gA (65 + 60) (613 + 480)) tw_i9 (tw_rm 60 60 [(63, 0, 64), (0, 7, 1), (1, 0, 2)]) := by
  have rN : tw_st (tw_rm 60 0 [(0, 7, 1), (1, 0, 2)]) 64 (fun _ => none) = tw_rm 60 0 [(0, 7, 1), (1, 0, 2)] := tw_rmN (by decide) (by decide) (by decide)
  have rP : tw_st (tw_rm 60 0 [(0, 7, 1), (1, 0, 2)]) 63 (tw_st (tw_rm 60 0 [(0, 7, 1), (1, 0, 2)] 63) 0 (some 64)) = tw_rm 60 0 [(63, 0, 64), (0, 7, 1), (1, 0, 2)] := tw_rmP (by decide) (by decide)
  have kA : tw_kd (tw_gA 65 613) 63 = 1 := tw_kdA (a := 63) (by omega)
  simp only [tz_35_0, tz_35_1, tz_35_4, tz_35_5, tz_35_7, tz_35_10, tz_35_13, tz_35_14, tz_35_16, tz_35_18, tz_35_21, tz_35_22, tz_35_25, tz_35_26, tz_35_29, tz_35_30, tz_35_33, tz_35_34, tz_35_37, tz_35_40, tw_va_s, tw_va_n, tw_K_s, tw_K_n, and_true, true_and, and_false, false_and, true_or, or_true, not_true_eq_false, not_false_eq_true, ↓reduceIte, Nat.reduceEqDiff, tw_gA_1, tgn_64, tw_i9N, rN, rP, kA]
  have z := tw_c_tri63l (sc := sc) (d := d) (Q := Q) 60 0 rfl
  exact z
end tw_ctor
