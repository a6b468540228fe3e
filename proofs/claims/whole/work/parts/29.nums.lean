/-! numbers: comparisons, bytes of a long (some rows are the kit's BITS and NUMBERS, pasted) -/
set_option maxRecDepth 100000 in
theorem nx_and (a b : Nat) : nI a &&& nI b = nI (a &&& b) := by
  apply Int32.toBitVec_inj.1
  show BitVec.ofNat 32 a &&& BitVec.ofNat 32 b = BitVec.ofNat 32 (a &&& b)
  apply BitVec.eq_of_getLsbD_eq
  intro i hi
  simp [hi]
set_option maxRecDepth 100000 in
theorem wb_inj {a b : Int64} (h : a.toBitVec = b.toBitVec) : a = b := Int64.toBitVec_inj.mp h
set_option maxRecDepth 100000 in
theorem wb_of (x : Int64) : ∃ n, n < 2 ^ 64 ∧ x = lN n := ⟨x.toBitVec.toNat, x.toBitVec.isLt, wb_inj (by show _ = BitVec.ofNat 64 _; simp)⟩
set_option maxRecDepth 100000 in
theorem wb_cu : ∀ k, k < 64 → ((nI k).toInt64.toUInt64 &&& Int64.toUInt64 63) = UInt64.ofNat k := by decide +kernel
set_option maxRecDepth 100000 in
theorem wb_c : ∀ k, k < 64 → ((nI k).toInt64 &&& 63) = lN k := by decide +kernel
set_option maxRecDepth 100000 in
theorem fa_wide_lt (a b : Int32) : a.toInt64 < b.toInt64 ↔ a < b := by rw [Int64.lt_iff_toInt_lt, Int32.lt_iff_toInt_lt, Int32.toInt_toInt64, Int32.toInt_toInt64]
set_option maxRecDepth 100000 in
theorem fa_wide_le (a b : Int32) : a.toInt64 ≤ b.toInt64 ↔ a ≤ b := by rw [Int64.le_iff_toInt_le, Int32.le_iff_toInt_le, Int32.toInt_toInt64, Int32.toInt_toInt64]
set_option maxRecDepth 100000 in
theorem tw_nmod (n : Nat) : nI n &&& 255 = nI (n % 256) := by
  show nI n &&& nI 255 = _
  rw [nx_and, show (255 : Nat) = 2 ^ 8 - 1 from rfl, Nat.and_two_pow_sub_one_eq_mod]
/-- byte i of a long -/
def tw_by (w i : Nat) : Nat := w / 2 ^ (8 * i) % 256
set_option maxRecDepth 100000 in
theorem tw_by_lt (w i : Nat) : tw_by w i < 256 := Nat.mod_lt _ (by omega)
set_option maxRecDepth 100000 in
theorem tw_by_u {w i : Nat} (hw : w < 2 ^ 64) (hi : i < 8) : (((lN w).toUInt64 >>> ((8 * nI i).toInt64.toUInt64 &&& Int64.toUInt64 63)).toInt64).toInt32 &&& 255 = nI (tw_by w i) := by
  have e : (8 : Int32) * nI i = nI (8 * i) := pk_mul 8 i
  rw [e, wb_cu _ (by omega)]
  have h1 : ((lN w).toUInt64 >>> UInt64.ofNat (8 * i)).toInt64 = lN (w / 2 ^ (8 * i)) := by
    apply wb_inj
    apply BitVec.eq_of_toNat_eq
    show ((lN w).toUInt64 >>> UInt64.ofNat (8 * i)).toNat = (BitVec.ofNat 64 _).toNat
    have h2 : (UInt64.ofNat (8 * i)).toNat = 8 * i := Nat.mod_eq_of_lt (by omega)
    have h3 : (lN w).toUInt64.toNat = w := Nat.mod_eq_of_lt hw
    rw [UInt64.toNat_shiftRight, h2, h3, BitVec.toNat_ofNat, Nat.mod_eq_of_lt (show 8 * i < 64 by omega), Nat.shiftRight_eq_div_pow]
    exact (Nat.mod_eq_of_lt (Nat.lt_of_le_of_lt (Nat.div_le_self _ _) hw)).symm
  rw [h1, lN_i, tw_nmod]
  rfl
set_option maxRecDepth 100000 in
theorem tw_by_s {w i : Nat} (hw : w < 2 ^ 64) (hi : i < 8) : (lN w >>> ((8 * nI i).toInt64 &&& 63)) &&& 255 = lN (tw_by w i) := by
  have e : (8 : Int32) * nI i = nI (8 * i) := pk_mul 8 i
  rw [e, wb_c _ (by omega)]
  apply wb_inj
  apply BitVec.eq_of_getLsbD_eq
  intro j hj
  have h255 : ∀ j : Fin 64, (255 : Int64).toBitVec.getLsbD j.val = decide (j.val < 8) := by decide +kernel
  have hsm : ((lN (8 * i)).toBitVec.smod 64).toNat = 8 * i := by
    have : ∀ i : Fin 8, ((lN (8 * i.val)).toBitVec.smod 64).toNat = 8 * i.val := by decide +kernel
    exact this ⟨i, hi⟩
  rw [Int64.toBitVec_and, Int64.toBitVec_shiftRight, BitVec.getLsbD_and, h255 ⟨j, hj⟩]
  show _ = (BitVec.ofNat 64 (tw_by w i)).getLsbD j
  have hsr : ((lN w).toBitVec.sshiftRight' ((lN (8 * i)).toBitVec.smod 64)).getLsbD j = if 8 * i + j < 64 then (lN w).toBitVec.getLsbD (8 * i + j) else (lN w).toBitVec.msb := by
    rw [BitVec.sshiftRight', hsm, BitVec.getLsbD_sshiftRight]
    simp [hj]
  rw [hsr]
  by_cases h8 : j < 8
  · rw [if_pos (by omega)]
    simp only [h8, decide_true, Bool.and_true]
    show (BitVec.ofNat 64 w).getLsbD _ = _
    rw [BitVec.getLsbD_ofNat, BitVec.getLsbD_ofNat]
    unfold tw_by
    rw [show (256 : Nat) = 2 ^ 8 from rfl, Nat.testBit_mod_two_pow, Nat.testBit_div_two_pow]
    simp [h8, hj, show 8 * i + j < 64 by omega, Nat.add_comm]
    intro _
    omega
  · simp only [h8, decide_false, Bool.and_false]
    rw [BitVec.getLsbD_ofNat]
    unfold tw_by
    rw [show (256 : Nat) = 2 ^ 8 from rfl, Nat.testBit_mod_two_pow]
    simp [h8]
set_option maxRecDepth 100000 in
theorem tw_by_sn {w i : Nat} (hw : w < 2 ^ 64) (hi : i < 8) : (lN w >>> ((nI 8 * nI i).toInt64 &&& 63)) &&& 255 = lN (tw_by w i) := tw_by_s hw hi
/-- how many bytes from i on are not 0 -/
def tw_cnt (w : Nat) : Nat → Nat → Nat
  | 0, i => i
  | f + 1, i => if i < 8 ∧ tw_by w i ≠ 0 then tw_cnt w f (i + 1) else i
set_option maxRecDepth 100000 in
theorem tw_cnt_le (w : Nat) : ∀ f i, i ≤ 8 → i ≤ tw_cnt w f i ∧ tw_cnt w f i ≤ 8 ∧ ∀ j, i ≤ j → j < tw_cnt w f i → tw_by w j ≠ 0 := by
  intro f
  induction f with
  | zero => intro i hi; exact ⟨Nat.le_refl _, hi, fun j h1 h2 => by simp only [tw_cnt] at h2; omega⟩
  | succ f ih =>
    intro i hi
    simp only [tw_cnt]
    split
    · rename_i h
      obtain ⟨a, b, c⟩ := ih (i + 1) (by omega)
      refine ⟨by omega, b, fun j h1 h2 => ?_⟩
      rcases Nat.lt_or_ge i j with h3 | h3
      · exact c j h3 h2
      · rw [show j = i by omega]; exact h.2
    · exact ⟨Nat.le_refl _, hi, fun j h1 h2 => by omega⟩
set_option maxRecDepth 100000 in
theorem tl0 : (0 : Int32) = nI 0 := by decide +kernel
set_option maxRecDepth 100000 in
theorem tl1 : (1 : Int32) = nI 1 := by decide +kernel
set_option maxRecDepth 100000 in
theorem tl2 : (2 : Int32) = nI 2 := by decide +kernel
set_option maxRecDepth 100000 in
theorem tl3 : (3 : Int32) = nI 3 := by decide +kernel
set_option maxRecDepth 100000 in
theorem tl4 : (4 : Int32) = nI 4 := by decide +kernel
set_option maxRecDepth 100000 in
theorem tl5 : (5 : Int32) = nI 5 := by decide +kernel
set_option maxRecDepth 100000 in
theorem tl6 : (6 : Int32) = nI 6 := by decide +kernel
set_option maxRecDepth 100000 in
theorem tl7 : (7 : Int32) = nI 7 := by decide +kernel
set_option maxRecDepth 100000 in
theorem tl8 : (8 : Int32) = nI 8 := by decide +kernel
set_option maxRecDepth 100000 in
theorem tl9 : (9 : Int32) = nI 9 := by decide +kernel
set_option maxRecDepth 100000 in
theorem tl10 : (10 : Int32) = nI 10 := by decide +kernel
set_option maxRecDepth 100000 in
theorem tl15 : (15 : Int32) = nI 15 := by decide +kernel
set_option maxRecDepth 100000 in
theorem tl16 : (16 : Int32) = nI 16 := by decide +kernel
set_option maxRecDepth 100000 in
theorem tl20 : (20 : Int32) = nI 20 := by decide +kernel
set_option maxRecDepth 100000 in
theorem tl24 : (24 : Int32) = nI 24 := by decide +kernel
set_option maxRecDepth 100000 in
theorem tl32 : (32 : Int32) = nI 32 := by decide +kernel
set_option maxRecDepth 100000 in
theorem tl33 : (33 : Int32) = nI 33 := by decide +kernel
set_option maxRecDepth 100000 in
theorem tl38 : (38 : Int32) = nI 38 := by decide +kernel
set_option maxRecDepth 100000 in
theorem tl40 : (40 : Int32) = nI 40 := by decide +kernel
set_option maxRecDepth 100000 in
theorem tl41 : (41 : Int32) = nI 41 := by decide +kernel
set_option maxRecDepth 100000 in
theorem tl42 : (42 : Int32) = nI 42 := by decide +kernel
set_option maxRecDepth 100000 in
theorem tl43 : (43 : Int32) = nI 43 := by decide +kernel
set_option maxRecDepth 100000 in
theorem tl44 : (44 : Int32) = nI 44 := by decide +kernel
set_option maxRecDepth 100000 in
theorem tl45 : (45 : Int32) = nI 45 := by decide +kernel
set_option maxRecDepth 100000 in
theorem tl47 : (47 : Int32) = nI 47 := by decide +kernel
set_option maxRecDepth 100000 in
theorem tl48 : (48 : Int32) = nI 48 := by decide +kernel
set_option maxRecDepth 100000 in
theorem tl57 : (57 : Int32) = nI 57 := by decide +kernel
set_option maxRecDepth 100000 in
theorem tl58 : (58 : Int32) = nI 58 := by decide +kernel
set_option maxRecDepth 100000 in
theorem tl59 : (59 : Int32) = nI 59 := by decide +kernel
set_option maxRecDepth 100000 in
theorem tl60 : (60 : Int32) = nI 60 := by decide +kernel
set_option maxRecDepth 100000 in
theorem tl97 : (97 : Int32) = nI 97 := by decide +kernel
set_option maxRecDepth 100000 in
theorem tl112 : (112 : Int32) = nI 112 := by decide +kernel
set_option maxRecDepth 100000 in
theorem tl126 : (126 : Int32) = nI 126 := by decide +kernel
set_option maxRecDepth 100000 in
theorem tl255 : (255 : Int32) = nI 255 := by decide +kernel
set_option maxRecDepth 100000 in
theorem tl256 : (256 : Int32) = nI 256 := by decide +kernel
set_option maxRecDepth 100000 in
theorem tl257 : (257 : Int32) = nI 257 := by decide +kernel
set_option maxRecDepth 100000 in
theorem tl258 : (258 : Int32) = nI 258 := by decide +kernel
set_option maxRecDepth 100000 in
theorem tl400 : (400 : Int32) = nI 400 := by decide +kernel
set_option maxRecDepth 100000 in
theorem tl500 : (500 : Int32) = nI 500 := by decide +kernel
set_option maxRecDepth 100000 in
theorem tl512 : (512 : Int32) = nI 512 := by decide +kernel
set_option maxRecDepth 100000 in
theorem tl999 : (999 : Int32) = nI 999 := by decide +kernel
set_option maxRecDepth 100000 in
theorem tl1000 : (1000 : Int32) = nI 1000 := by decide +kernel
set_option maxRecDepth 100000 in
theorem tl1001 : (1001 : Int32) = nI 1001 := by decide +kernel
set_option maxRecDepth 100000 in
theorem tl4000 : (4000 : Int32) = nI 4000 := by decide +kernel
set_option maxRecDepth 100000 in
theorem tl65535 : (65535 : Int32) = nI 65535 := by decide +kernel
set_option maxRecDepth 100000 in
theorem tw_le_t {a b : Nat} {A B : Prop} (h : a ≤ b) (hb : b < 2 ^ 31) : (if nI a ≤ nI b then A else B) = A := if_pos (nI_le h hb)
set_option maxRecDepth 100000 in
theorem tw_le_f {a b : Nat} {A B : Prop} (h : b < a) (ha : a < 2 ^ 31) : (if nI a ≤ nI b then A else B) = B := if_neg (nI_ge h ha)
set_option maxRecDepth 100000 in
theorem tw_lt_t {a b : Nat} {A B : Prop} (h : a < b) (hb : b < 2 ^ 31) : (if nI a < nI b then A else B) = A := if_pos (nI_lt h hb)
set_option maxRecDepth 100000 in
theorem tw_lt_f {a b : Nat} {A B : Prop} (h : b ≤ a) (ha : a < 2 ^ 31) : (if nI a < nI b then A else B) = B := if_neg (nI_nlt h ha)
set_option maxRecDepth 100000 in
theorem tw_eq_t {a b : Nat} {A B : Prop} (h : a = b) : (if nI a = nI b then A else B) = A := if_pos (by rw [h])
set_option maxRecDepth 100000 in
theorem tw_eq_f {a b : Nat} {A B : Prop} (h : a ≠ b) (ha : a < 2 ^ 31) (hb : b < 2 ^ 31) : (if nI a = nI b then A else B) = B := if_neg (fun e => h ((nI_eq ha hb).mp e))
set_option maxRecDepth 100000 in
theorem tw_ne_t {a b : Nat} {A B : Prop} (h : a ≠ b) (ha : a < 2 ^ 31) (hb : b < 2 ^ 31) : (if ¬ nI a = nI b then A else B) = A := if_pos (fun e => h ((nI_eq ha hb).mp e))
set_option maxRecDepth 100000 in
theorem tw_ne_f {a b : Nat} {A B : Prop} (h : a = b) : (if ¬ nI a = nI b then A else B) = B := if_neg (fun e => e (by rw [h]))
