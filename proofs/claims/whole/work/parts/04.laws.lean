/-! the laws of the small machine: printed by wip/whole/gen2.py -/
section tw_laws
variable {sc : Nat × (Nat → Int32)} {d m pc : Nat} {ls : tw_L} {st : List Value} {g : tw_G} {mi : tw_I} {mr : tw_Q} {Q : Option Value → tw_G → tw_I → tw_Q → Prop}
theorem tw_mono1 : ∀ (f : Nat) (d m pc : Nat) (ls : tw_L) (st : List Value) (g : tw_G) (mi : tw_I) (mr : tw_Q) (r : Option Value × tw_G × tw_I × tw_Q), tw_run sc f d m pc ls st g mi mr = some r → tw_run sc (f + 1) d m pc ls st g mi mr = some r := by
  intro f
  induction f with
  | zero => intro d m pc ls st g mi mr r h; rw [tw_run] at h; cases h
  | succ f ih =>
    intro d m pc ls st g mi mr r h
    rw [tw_run] at h ⊢
    cases hd : decode (tw_cd m) pc with
    | error z => rw [hd] at h; cases h
    | ok q =>
      obtain ⟨ins, len⟩ := q
      simp only [hd] at h ⊢
      cases hl : tw_lo m ins len pc ls st with
      | some q => simp only [hl] at h ⊢; exact ih _ _ _ _ _ _ _ _ _ h
      | none =>
        simp only [hl] at h ⊢
        cases hh : tw_hp sc m d ins len st g mi mr with
        | some q => simp only [hh] at h ⊢; exact ih _ _ _ _ _ _ _ _ _ h
        | none =>
          simp only [hh] at h ⊢
          cases hc : tw_ca m ins len st g with
          | none => simp only [hc] at h ⊢; exact h
          | some q =>
            obtain ⟨k, as, r⟩ := q
            simp only [hc] at h ⊢
            split at h
            next hcond =>
              rw [if_pos hcond]
              cases h1 : tw_run sc f (d - 1) k 0 (tw_n0 k as) [] g mi mr with
              | none => simp only [h1] at h; cases h
              | some q => simp only [h1] at h; simp only [ih _ _ _ _ _ _ _ _ _ h1]; exact ih _ _ _ _ _ _ _ _ _ h
            next => cases h
theorem tw_mono {f f' : Nat} (hf : f ≤ f') {r : Option Value × tw_G × tw_I × tw_Q} (h : tw_run sc f d m pc ls st g mi mr = some r) : tw_run sc f' d m pc ls st g mi mr = some r := by
  induction hf with
  | refl => exact h
  | step _ ih => exact tw_mono1 _ _ _ _ _ _ _ _ _ _ ih
theorem tw_E_lo {ins : Instr} {len pc' : Nat} {ls' : tw_L} {st' : List Value} (hd : decode (tw_cd m) pc = .ok (ins, len)) (hl : tw_lo m ins len pc ls st = some (pc', ls', st')) : tw_E sc d m pc ls st g mi mr Q = tw_E sc d m pc' ls' st' g mi mr Q := by
  refine propext ⟨fun ⟨f, v, g1, i1, r1, h, hq⟩ => ?_, fun ⟨f, v, g1, i1, r1, h, hq⟩ => ⟨f + 1, v, g1, i1, r1, ?_, hq⟩⟩
  · cases f with
    | zero => rw [tw_run] at h; cases h
    | succ f =>
      rw [tw_run] at h
      simp only [hd, hl] at h
      exact ⟨f, v, g1, i1, r1, h, hq⟩
  · rw [tw_run]
    simp only [hd, hl]
    exact h
theorem tw_E_hp {ins : Instr} {len : Nat} {st' : List Value} {g' : tw_G} {mi' : tw_I} {mr' : tw_Q} (hd : decode (tw_cd m) pc = .ok (ins, len)) (hl : tw_lo m ins len pc ls st = none) (hh : tw_hp sc m d ins len st g mi mr = some (st', g', mi', mr')) : tw_E sc d m pc ls st g mi mr Q = tw_E sc d m (pc + len) ls st' g' mi' mr' Q := by
  refine propext ⟨fun ⟨f, v, g1, i1, r1, h, hq⟩ => ?_, fun ⟨f, v, g1, i1, r1, h, hq⟩ => ⟨f + 1, v, g1, i1, r1, ?_, hq⟩⟩
  · cases f with
    | zero => rw [tw_run] at h; cases h
    | succ f =>
      rw [tw_run] at h
      simp only [hd, hl, hh] at h
      exact ⟨f, v, g1, i1, r1, h, hq⟩
  · rw [tw_run]
    simp only [hd, hl, hh]
    exact h
theorem tw_E_no {ins : Instr} {len : Nat} (hd : decode (tw_cd m) pc = .ok (ins, len)) (hl : tw_lo m ins len pc ls st = none) (hh : tw_hp sc m d ins len st g mi mr = none) (hc : tw_ca m ins len st g = none) (hr : tw_re m ins len st = none) : tw_E sc d m pc ls st g mi mr Q = False := by
  refine propext ⟨fun ⟨f, v, g1, i1, r1, h, hq⟩ => ?_, fun h => h.elim⟩
  cases f with
  | zero => rw [tw_run] at h; cases h
  | succ f =>
    rw [tw_run] at h
    simp only [hd, hl, hh, hc, hr] at h
    cases h
theorem tw_E_re {ins : Instr} {len : Nat} {v : Option Value} (hd : decode (tw_cd m) pc = .ok (ins, len)) (hl : tw_lo m ins len pc ls st = none) (hh : tw_hp sc m d ins len st g mi mr = none) (hc : tw_ca m ins len st g = none) (hr : tw_re m ins len st = some v) : tw_E sc d m pc ls st g mi mr Q = Q v g mi mr := by
  refine propext ⟨fun ⟨f, v, g1, i1, r1, h, hq⟩ => ?_, fun h => ⟨1, v, g, mi, mr, ?_, h⟩⟩
  · cases f with
    | zero => rw [tw_run] at h; cases h
    | succ f =>
      rw [tw_run] at h
      simp only [hd, hl, hh, hc, hr] at h
      cases h
      exact hq
  · rw [tw_run]
    simp only [hd, hl, hh, hc, hr]
/-- what is done behind a call -/
def tw_K (sc : Nat × (Nat → Int32)) (d m pc : Nat) (ls : tw_L) (r : List Value) (Q : Option Value → tw_G → tw_I → tw_Q → Prop) : Option Value → tw_G → tw_I → tw_Q → Prop := fun v g mi mr => tw_E sc d m pc ls (v.toList ++ r) g mi mr Q
theorem tw_K_s {r : List Value} {v : Value} : tw_K sc d m pc ls r Q (some v) g mi mr = tw_E sc d m pc ls (v :: r) g mi mr Q := rfl
theorem tw_K_n {r : List Value} : tw_K sc d m pc ls r Q none g mi mr = tw_E sc d m pc ls r g mi mr Q := rfl
theorem tw_E_ca {ins : Instr} {len k : Nat} {as r : List Value} (hd : decode (tw_cd m) pc = .ok (ins, len)) (hl : tw_lo m ins len pc ls st = none) (hh : tw_hp sc m (d + 1) ins len st g mi mr = none) (hc : tw_ca m ins len st g = some (k, as, r)) (hcond : (decide (r.length ≤ 4) && (decide (k < tw_ny) && (decide (tw_lg 0 as = tw_lp k) && decide ((tw_en as).length ≤ tw_ml k)))) = true) : tw_E sc (d + 1) m pc ls st g mi mr Q = tw_E sc d k 0 (tw_n0 k as) [] g mi mr (tw_K sc (d + 1) m (pc + 3) ls r Q) := by
  simp only [Bool.and_eq_true, decide_eq_true_eq] at hcond
  have hcond : 1 ≤ d + 1 ∧ r.length ≤ 4 ∧ k < tw_ny ∧ tw_lg 0 as = tw_lp k ∧ (tw_en as).length ≤ tw_ml k := ⟨by omega, hcond⟩
  refine propext ⟨fun ⟨f, v, g1, i1, r1, h, hq⟩ => ?_, fun ⟨f, v, g1, i1, r1, h, f2, v2, g2, i2, r2, h2, hq⟩ => ⟨f + f2 + 1, v2, g2, i2, r2, ?_, hq⟩⟩
  · cases f with
    | zero => rw [tw_run] at h; cases h
    | succ f =>
      rw [tw_run] at h
      simp only [hd, hl, hh, hc, if_pos hcond] at h
      cases h1 : tw_run sc f (d + 1 - 1) k 0 (tw_n0 k as) [] g mi mr with
      | none => simp only [h1] at h; cases h
      | some q =>
        simp only [h1] at h
        exact ⟨f, q.1, q.2.1, q.2.2.1, q.2.2.2, h1, f, v, g1, i1, r1, h, hq⟩
  · rw [tw_run]
    simp only [hd, hl, hh, hc, if_pos hcond]
    have h1 : tw_run sc (f + f2) (d + 1 - 1) k 0 (tw_n0 k as) [] g mi mr = some (v, g1, i1, r1) := tw_mono (by omega) h
    simp only [h1]
    exact tw_mono (by omega) h2
/-! an instruction each -/
theorem tw_x_iconst {n : Int} {v : Int32} (hd : decode (tw_cd m) pc = .ok (.iconst n, 1)) (hv : Int32.ofInt n = v) : tw_E sc d m pc ls (st) g mi mr Q = tw_E sc d m (pc + 1) ls (.int v :: st) g mi mr Q := tw_E_lo hd (by simp [tw_lo, tw_ar, hv])
theorem tw_x_bipush {n : Int} {v : Int32} (hd : decode (tw_cd m) pc = .ok (.bipush n, 2)) (hv : (Int8.ofInt n).toInt32 = v) : tw_E sc d m pc ls (st) g mi mr Q = tw_E sc d m (pc + 2) ls (.int v :: st) g mi mr Q := tw_E_lo hd (by simp [tw_lo, tw_ar, hv])
theorem tw_x_sipush {n : Int} {v : Int32} (hd : decode (tw_cd m) pc = .ok (.sipush n, 3)) (hv : (Int16.ofInt n).toInt32 = v) : tw_E sc d m pc ls (st) g mi mr Q = tw_E sc d m (pc + 3) ls (.int v :: st) g mi mr Q := tw_E_lo hd (by simp [tw_lo, tw_ar, hv])
theorem tw_x_lconst {n : Fin 2} {v : Int64} (hd : decode (tw_cd m) pc = .ok (.lconst n, 1)) (hv : Int64.ofNat (n : Nat) = v) : tw_E sc d m pc ls (st) g mi mr Q = tw_E sc d m (pc + 1) ls (.long v :: st) g mi mr Q := tw_E_lo hd (by simp [tw_lo, tw_ar, hv])
theorem tw_x_aconst_null (hd : decode (tw_cd m) pc = .ok (.aconst_null, 1)) : tw_E sc d m pc ls (st) g mi mr Q = tw_E sc d m (pc + 1) ls (.null :: st) g mi mr Q := tw_E_lo hd (by simp [tw_lo, tw_ar])
theorem tw_x_iadd {x y : Int32} (hd : decode (tw_cd m) pc = .ok (.iadd, 1)) : tw_E sc d m pc ls (.int y :: .int x :: st) g mi mr Q = tw_E sc d m (pc + 1) ls (.int (x + y) :: st) g mi mr Q := tw_E_lo hd (by simp [tw_lo, tw_ar])
theorem tw_x_isub {x y : Int32} (hd : decode (tw_cd m) pc = .ok (.isub, 1)) : tw_E sc d m pc ls (.int y :: .int x :: st) g mi mr Q = tw_E sc d m (pc + 1) ls (.int (x - y) :: st) g mi mr Q := tw_E_lo hd (by simp [tw_lo, tw_ar])
theorem tw_x_imul {x y : Int32} (hd : decode (tw_cd m) pc = .ok (.imul, 1)) : tw_E sc d m pc ls (.int y :: .int x :: st) g mi mr Q = tw_E sc d m (pc + 1) ls (.int (x * y) :: st) g mi mr Q := tw_E_lo hd (by simp [tw_lo, tw_ar])
theorem tw_x_iand {x y : Int32} (hd : decode (tw_cd m) pc = .ok (.iand, 1)) : tw_E sc d m pc ls (.int y :: .int x :: st) g mi mr Q = tw_E sc d m (pc + 1) ls (.int (x &&& y) :: st) g mi mr Q := tw_E_lo hd (by simp [tw_lo, tw_ar])
theorem tw_x_ior {x y : Int32} (hd : decode (tw_cd m) pc = .ok (.ior, 1)) : tw_E sc d m pc ls (.int y :: .int x :: st) g mi mr Q = tw_E sc d m (pc + 1) ls (.int (x ||| y) :: st) g mi mr Q := tw_E_lo hd (by simp [tw_lo, tw_ar])
theorem tw_x_ixor {x y : Int32} (hd : decode (tw_cd m) pc = .ok (.ixor, 1)) : tw_E sc d m pc ls (.int y :: .int x :: st) g mi mr Q = tw_E sc d m (pc + 1) ls (.int (x ^^^ y) :: st) g mi mr Q := tw_E_lo hd (by simp [tw_lo, tw_ar])
theorem tw_x_ishl {x y : Int32} (hd : decode (tw_cd m) pc = .ok (.ishl, 1)) : tw_E sc d m pc ls (.int y :: .int x :: st) g mi mr Q = tw_E sc d m (pc + 1) ls (.int (x <<< (y &&& 31)) :: st) g mi mr Q := tw_E_lo hd (by simp [tw_lo, tw_ar])
theorem tw_x_ishr {x y : Int32} (hd : decode (tw_cd m) pc = .ok (.ishr, 1)) : tw_E sc d m pc ls (.int y :: .int x :: st) g mi mr Q = tw_E sc d m (pc + 1) ls (.int (x >>> (y &&& 31)) :: st) g mi mr Q := tw_E_lo hd (by simp [tw_lo, tw_ar])
theorem tw_x_land {x y : Int64} (hd : decode (tw_cd m) pc = .ok (.land, 1)) : tw_E sc d m pc ls (.long y :: .long x :: st) g mi mr Q = tw_E sc d m (pc + 1) ls (.long (x &&& y) :: st) g mi mr Q := tw_E_lo hd (by simp [tw_lo, tw_ar])
theorem tw_x_lor {x y : Int64} (hd : decode (tw_cd m) pc = .ok (.lor, 1)) : tw_E sc d m pc ls (.long y :: .long x :: st) g mi mr Q = tw_E sc d m (pc + 1) ls (.long (x ||| y) :: st) g mi mr Q := tw_E_lo hd (by simp [tw_lo, tw_ar])
theorem tw_x_lcmp {x y : Int64} (hd : decode (tw_cd m) pc = .ok (.lcmp, 1)) : tw_E sc d m pc ls (.long y :: .long x :: st) g mi mr Q = tw_E sc d m (pc + 1) ls (.int (lg_cmp x y) :: st) g mi mr Q := tw_E_lo hd (by simp [tw_lo, tw_ar])
theorem tw_x_lshl {x : Int64} {y : Int32} (hd : decode (tw_cd m) pc = .ok (.lshl, 1)) : tw_E sc d m pc ls (.int y :: .long x :: st) g mi mr Q = tw_E sc d m (pc + 1) ls (.long (x <<< (y.toInt64 &&& 63)) :: st) g mi mr Q := tw_E_lo hd (by simp [tw_lo, tw_ar])
theorem tw_x_lshr {x : Int64} {y : Int32} (hd : decode (tw_cd m) pc = .ok (.lshr, 1)) : tw_E sc d m pc ls (.int y :: .long x :: st) g mi mr Q = tw_E sc d m (pc + 1) ls (.long (x >>> (y.toInt64 &&& 63)) :: st) g mi mr Q := tw_E_lo hd (by simp [tw_lo, tw_ar])
theorem tw_x_lushr {x : Int64} {y : Int32} (hd : decode (tw_cd m) pc = .ok (.lushr, 1)) : tw_E sc d m pc ls (.int y :: .long x :: st) g mi mr Q = tw_E sc d m (pc + 1) ls (.long ((x.toUInt64 >>> (y.toInt64.toUInt64 &&& Int64.toUInt64 63)).toInt64) :: st) g mi mr Q := tw_E_lo hd (by simp [tw_lo, tw_ar])
theorem tw_x_i2l {x : Int32} (hd : decode (tw_cd m) pc = .ok (.i2l, 1)) : tw_E sc d m pc ls (.int x :: st) g mi mr Q = tw_E sc d m (pc + 1) ls (.long x.toInt64 :: st) g mi mr Q := tw_E_lo hd (by simp [tw_lo, tw_ar])
theorem tw_x_l2i {x : Int64} (hd : decode (tw_cd m) pc = .ok (.l2i, 1)) : tw_E sc d m pc ls (.long x :: st) g mi mr Q = tw_E sc d m (pc + 1) ls (.int x.toInt32 :: st) g mi mr Q := tw_E_lo hd (by simp [tw_lo, tw_ar])
theorem tw_x_dup_int {x : Int32} (hd : decode (tw_cd m) pc = .ok (.dup, 1)) : tw_E sc d m pc ls (.int x :: st) g mi mr Q = tw_E sc d m (pc + 1) ls (.int x :: .int x :: st) g mi mr Q := tw_E_lo hd (by simp [tw_lo, tw_ar, Value.category])
theorem tw_x_pop_int {x : Int32} (hd : decode (tw_cd m) pc = .ok (.pop, 1)) : tw_E sc d m pc ls (.int x :: st) g mi mr Q = tw_E sc d m (pc + 1) ls (st) g mi mr Q := tw_E_lo hd (by simp [tw_lo, tw_ar, Value.category])
theorem tw_x_dup_ref {x : Nat} (hd : decode (tw_cd m) pc = .ok (.dup, 1)) : tw_E sc d m pc ls (.ref x :: st) g mi mr Q = tw_E sc d m (pc + 1) ls (.ref x :: .ref x :: st) g mi mr Q := tw_E_lo hd (by simp [tw_lo, tw_ar, Value.category])
theorem tw_x_pop_ref {x : Nat} (hd : decode (tw_cd m) pc = .ok (.pop, 1)) : tw_E sc d m pc ls (.ref x :: st) g mi mr Q = tw_E sc d m (pc + 1) ls (st) g mi mr Q := tw_E_lo hd (by simp [tw_lo, tw_ar, Value.category])
theorem tw_x_dup2_ir {x : Nat} {y : Int32} (hd : decode (tw_cd m) pc = .ok (.dup2, 1)) : tw_E sc d m pc ls (.int y :: .ref x :: st) g mi mr Q = tw_E sc d m (pc + 1) ls (.int y :: .ref x :: .int y :: .ref x :: st) g mi mr Q := tw_E_lo hd (by simp [tw_lo, tw_ar, Value.category])
theorem tw_x_idiv {x y : Int32} (hd : decode (tw_cd m) pc = .ok (.idiv, 1)) : tw_E sc d m pc ls (.int y :: .int x :: st) g mi mr Q = (¬ y = 0 ∧ tw_E sc d m (pc + 1) ls (.int (x / y) :: st) g mi mr Q) := by
  by_cases h : y = 0
  · rw [tw_E_no hd (by simp [tw_lo, tw_ar, tw_ld, tw_so, tw_jp, h]) (by simp [tw_hp, tw_rd, tw_wr]) (by simp [tw_ca]) (by simp [tw_re])]; simp [h]
  · rw [tw_E_lo hd (show tw_lo m .idiv 1 pc ls (.int y :: .int x :: st) = some (pc + 1, ls, .int (x / y) :: st) by simp [tw_lo, tw_ar, h])]; simp [h]
theorem tw_x_irem {x y : Int32} (hd : decode (tw_cd m) pc = .ok (.irem, 1)) : tw_E sc d m pc ls (.int y :: .int x :: st) g mi mr Q = (¬ y = 0 ∧ tw_E sc d m (pc + 1) ls (.int (x - x / y * y) :: st) g mi mr Q) := by
  by_cases h : y = 0
  · rw [tw_E_no hd (by simp [tw_lo, tw_ar, tw_ld, tw_so, tw_jp, h]) (by simp [tw_hp, tw_rd, tw_wr]) (by simp [tw_ca]) (by simp [tw_re])]; simp [h]
  · rw [tw_E_lo hd (show tw_lo m .irem 1 pc ls (.int y :: .int x :: st) = some (pc + 1, ls, .int (x - x / y * y) :: st) by simp [tw_lo, tw_ar, h])]; simp [h]
theorem tw_x_iload {k : Nat} {x : Int32} (hd : decode (tw_cd m) pc = .ok (.iload k, 2)) (hx : ls[k]? = some (some (.int x))) : tw_E sc d m pc ls st g mi mr Q = tw_E sc d m (pc + 2) ls (.int x :: st) g mi mr Q := tw_E_lo hd (by simp [tw_lo, tw_ar, tw_ld, hx])
theorem tw_x_iload_n {k : Fin 4} {x : Int32} (hd : decode (tw_cd m) pc = .ok (.iload_n k, 1)) (hx : ls[(k : Nat)]? = some (some (.int x))) : tw_E sc d m pc ls st g mi mr Q = tw_E sc d m (pc + 1) ls (.int x :: st) g mi mr Q := tw_E_lo hd (by simp [tw_lo, tw_ar, tw_ld, hx])
theorem tw_x_lload {k : Nat} {x : Int64} (hd : decode (tw_cd m) pc = .ok (.lload k, 2)) (hx : ls[k]? = some (some (.long x))) : tw_E sc d m pc ls st g mi mr Q = tw_E sc d m (pc + 2) ls (.long x :: st) g mi mr Q := tw_E_lo hd (by simp [tw_lo, tw_ar, tw_ld, hx])
theorem tw_x_lload_n {k : Fin 4} {x : Int64} (hd : decode (tw_cd m) pc = .ok (.lload_n k, 1)) (hx : ls[(k : Nat)]? = some (some (.long x))) : tw_E sc d m pc ls st g mi mr Q = tw_E sc d m (pc + 1) ls (.long x :: st) g mi mr Q := tw_E_lo hd (by simp [tw_lo, tw_ar, tw_ld, hx])
theorem tw_x_aload {k : Nat} {x : Nat} (hd : decode (tw_cd m) pc = .ok (.aload k, 2)) (hx : ls[k]? = some (some (.ref x))) : tw_E sc d m pc ls st g mi mr Q = tw_E sc d m (pc + 2) ls (.ref x :: st) g mi mr Q := tw_E_lo hd (by simp [tw_lo, tw_ar, tw_ld, hx])
theorem tw_x_aloadN {k : Nat} (hd : decode (tw_cd m) pc = .ok (.aload k, 2)) (hx : ls[k]? = some (some (.null))) : tw_E sc d m pc ls st g mi mr Q = tw_E sc d m (pc + 2) ls (.null :: st) g mi mr Q := tw_E_lo hd (by simp [tw_lo, tw_ar, tw_ld, hx])
theorem tw_x_aload_n {k : Fin 4} {x : Nat} (hd : decode (tw_cd m) pc = .ok (.aload_n k, 1)) (hx : ls[(k : Nat)]? = some (some (.ref x))) : tw_E sc d m pc ls st g mi mr Q = tw_E sc d m (pc + 1) ls (.ref x :: st) g mi mr Q := tw_E_lo hd (by simp [tw_lo, tw_ar, tw_ld, hx])
theorem tw_x_aload_nN {k : Fin 4} (hd : decode (tw_cd m) pc = .ok (.aload_n k, 1)) (hx : ls[(k : Nat)]? = some (some (.null))) : tw_E sc d m pc ls st g mi mr Q = tw_E sc d m (pc + 1) ls (.null :: st) g mi mr Q := tw_E_lo hd (by simp [tw_lo, tw_ar, tw_ld, hx])
theorem tw_x_aload_nS {k : Fin 4} {x : Nat} (hd : decode (tw_cd m) pc = .ok (.aload_n k, 1)) (hx : ls[(k : Nat)]? = some (some (.retAddr x))) : tw_E sc d m pc ls st g mi mr Q = tw_E sc d m (pc + 1) ls (.retAddr x :: st) g mi mr Q := tw_E_lo hd (by simp [tw_lo, tw_ar, tw_ld, hx])
theorem tw_x_istore {k : Nat} {x : Int32} {lp : List Nat} (hd : decode (tw_cd m) pc = .ok (.istore k, 2)) (hp : tw_lp m = lp) (hn : (decide (k < ls.length) && lp.all (fun j => k != j && k != j + 1)) = true) : tw_E sc d m pc ls (.int x :: st) g mi mr Q = tw_E sc d m (pc + 2) (ls.set k (some (.int x))) st g mi mr Q := by
  subst hp
  simp only [Bool.and_eq_true, decide_eq_true_eq] at hn
  exact tw_E_lo hd (by simp only [tw_lo, tw_ar, tw_ld, tw_so, tw_sto, if_pos hn, ↓reduceIte, Option.map_some])
theorem tw_x_istore_n {k : Fin 4} {x : Int32} {lp : List Nat} (hd : decode (tw_cd m) pc = .ok (.istore_n k, 1)) (hp : tw_lp m = lp) (hn : (decide ((k : Nat) < ls.length) && lp.all (fun j => (k : Nat) != j && (k : Nat) != j + 1)) = true) : tw_E sc d m pc ls (.int x :: st) g mi mr Q = tw_E sc d m (pc + 1) (ls.set (k : Nat) (some (.int x))) st g mi mr Q := by
  subst hp
  simp only [Bool.and_eq_true, decide_eq_true_eq] at hn
  exact tw_E_lo hd (by simp only [tw_lo, tw_ar, tw_ld, tw_so, tw_sto, if_pos hn, ↓reduceIte, Option.map_some])
theorem tw_x_astore {k : Nat} {x : Nat} {lp : List Nat} (hd : decode (tw_cd m) pc = .ok (.astore k, 2)) (hp : tw_lp m = lp) (hn : (decide (k < ls.length) && lp.all (fun j => k != j && k != j + 1)) = true) : tw_E sc d m pc ls (.ref x :: st) g mi mr Q = tw_E sc d m (pc + 2) (ls.set k (some (.ref x))) st g mi mr Q := by
  subst hp
  simp only [Bool.and_eq_true, decide_eq_true_eq] at hn
  exact tw_E_lo hd (by simp only [tw_lo, tw_ar, tw_ld, tw_so, tw_sto, if_pos hn, ↓reduceIte, Option.map_some])
theorem tw_x_astore_n {k : Fin 4} {x : Nat} {lp : List Nat} (hd : decode (tw_cd m) pc = .ok (.astore_n k, 1)) (hp : tw_lp m = lp) (hn : (decide ((k : Nat) < ls.length) && lp.all (fun j => (k : Nat) != j && (k : Nat) != j + 1)) = true) : tw_E sc d m pc ls (.ref x :: st) g mi mr Q = tw_E sc d m (pc + 1) (ls.set (k : Nat) (some (.ref x))) st g mi mr Q := by
  subst hp
  simp only [Bool.and_eq_true, decide_eq_true_eq] at hn
  exact tw_E_lo hd (by simp only [tw_lo, tw_ar, tw_ld, tw_so, tw_sto, if_pos hn, ↓reduceIte, Option.map_some])
theorem tw_x_astoreN {k : Nat} {lp : List Nat} (hd : decode (tw_cd m) pc = .ok (.astore k, 2)) (hp : tw_lp m = lp) (hn : (decide (k < ls.length) && lp.all (fun j => k != j && k != j + 1)) = true) : tw_E sc d m pc ls (.null :: st) g mi mr Q = tw_E sc d m (pc + 2) (ls.set k (some (.null))) st g mi mr Q := by
  subst hp
  simp only [Bool.and_eq_true, decide_eq_true_eq] at hn
  exact tw_E_lo hd (by simp only [tw_lo, tw_ar, tw_ld, tw_so, tw_sto, if_pos hn, ↓reduceIte, Option.map_some])
theorem tw_x_astore_nN {k : Fin 4} {lp : List Nat} (hd : decode (tw_cd m) pc = .ok (.astore_n k, 1)) (hp : tw_lp m = lp) (hn : (decide ((k : Nat) < ls.length) && lp.all (fun j => (k : Nat) != j && (k : Nat) != j + 1)) = true) : tw_E sc d m pc ls (.null :: st) g mi mr Q = tw_E sc d m (pc + 1) (ls.set (k : Nat) (some (.null))) st g mi mr Q := by
  subst hp
  simp only [Bool.and_eq_true, decide_eq_true_eq] at hn
  exact tw_E_lo hd (by simp only [tw_lo, tw_ar, tw_ld, tw_so, tw_sto, if_pos hn, ↓reduceIte, Option.map_some])
theorem tw_x_iinc {k : Nat} {n : Int} {x v : Int32} {lp : List Nat} (hd : decode (tw_cd m) pc = .ok (.iinc k n, 3)) (hx : ls[k]? = some (some (.int x))) (hv : x + Int32.ofInt n = v) (hp : tw_lp m = lp) (hn : (decide (k < ls.length) && lp.all (fun j => k != j && k != j + 1)) = true) : tw_E sc d m pc ls st g mi mr Q = tw_E sc d m (pc + 3) (ls.set k (some (.int v))) st g mi mr Q := by
  subst hp
  subst hv
  simp only [Bool.and_eq_true, decide_eq_true_eq] at hn
  exact tw_E_lo hd (by simp only [tw_lo, tw_ar, tw_ld, tw_so, hx, tw_sto, if_pos hn, ↓reduceIte, Option.map_some])
theorem tw_to_ok {off : Int} {t : Nat} (ht : (pc : Int) + off = (t : Int)) : tw_to pc off ls st = some (t, ls, st) := by
  simp only [tw_to, ht]
  rw [if_pos (by omega)]
  simp
theorem tw_x_goto {off : Int} {t : Nat} (hd : decode (tw_cd m) pc = .ok (.goto off, 3)) (ht : (pc : Int) + off = (t : Int)) : tw_E sc d m pc ls st g mi mr Q = tw_E sc d m t ls st g mi mr Q := tw_E_lo hd (by simp only [tw_lo, tw_ar, tw_ld, tw_so, tw_jp, tw_to_ok ht, ↓reduceIte])
theorem tw_x_if_eq {x : Int32} {off : Int} {t : Nat} (hd : decode (tw_cd m) pc = .ok (.ifCond .eq off, 3)) (ht : (pc : Int) + off = (t : Int)) : tw_E sc d m pc ls (.int x :: st) g mi mr Q = if x = 0 then tw_E sc d m t ls st g mi mr Q else tw_E sc d m (pc + 3) ls st g mi mr Q := by
  by_cases h : x = 0
  · rw [if_pos h]; exact tw_E_lo hd (by simp only [tw_lo, tw_ar, tw_ld, tw_so, tw_jp, tw_ci, h, decide_true, not_true_eq_false, not_false_eq_true, tw_to_ok ht, ht, Int.natCast_nonneg, and_self, ↓reduceIte])
  · rw [if_neg h]; exact tw_E_lo hd (by simp only [tw_lo, tw_ar, tw_ld, tw_so, tw_jp, tw_ci, h, decide_false, Bool.false_eq_true, ht, Int.natCast_nonneg, and_self, ↓reduceIte])
theorem tw_x_ic_eq {x y : Int32} {off : Int} {t : Nat} (hd : decode (tw_cd m) pc = .ok (.if_icmp .eq off, 3)) (ht : (pc : Int) + off = (t : Int)) : tw_E sc d m pc ls (.int y :: .int x :: st) g mi mr Q = if x = y then tw_E sc d m t ls st g mi mr Q else tw_E sc d m (pc + 3) ls st g mi mr Q := by
  by_cases h : x = y
  · rw [if_pos h]; exact tw_E_lo hd (by simp only [tw_lo, tw_ar, tw_ld, tw_so, tw_jp, tw_ci, h, decide_true, not_true_eq_false, not_false_eq_true, tw_to_ok ht, ht, Int.natCast_nonneg, and_self, ↓reduceIte])
  · rw [if_neg h]; exact tw_E_lo hd (by simp only [tw_lo, tw_ar, tw_ld, tw_so, tw_jp, tw_ci, h, decide_false, Bool.false_eq_true, ht, Int.natCast_nonneg, and_self, ↓reduceIte])
theorem tw_x_if_ne {x : Int32} {off : Int} {t : Nat} (hd : decode (tw_cd m) pc = .ok (.ifCond .ne off, 3)) (ht : (pc : Int) + off = (t : Int)) : tw_E sc d m pc ls (.int x :: st) g mi mr Q = if ¬ x = 0 then tw_E sc d m t ls st g mi mr Q else tw_E sc d m (pc + 3) ls st g mi mr Q := by
  by_cases h : ¬ x = 0
  · rw [if_pos h]; exact tw_E_lo hd (by simp only [tw_lo, tw_ar, tw_ld, tw_so, tw_jp, tw_ci, h, decide_true, not_true_eq_false, not_false_eq_true, tw_to_ok ht, ht, Int.natCast_nonneg, and_self, ↓reduceIte])
  · rw [if_neg h]; exact tw_E_lo hd (by simp only [tw_lo, tw_ar, tw_ld, tw_so, tw_jp, tw_ci, h, decide_false, Bool.false_eq_true, ht, Int.natCast_nonneg, and_self, ↓reduceIte])
theorem tw_x_ic_ne {x y : Int32} {off : Int} {t : Nat} (hd : decode (tw_cd m) pc = .ok (.if_icmp .ne off, 3)) (ht : (pc : Int) + off = (t : Int)) : tw_E sc d m pc ls (.int y :: .int x :: st) g mi mr Q = if ¬ x = y then tw_E sc d m t ls st g mi mr Q else tw_E sc d m (pc + 3) ls st g mi mr Q := by
  by_cases h : ¬ x = y
  · rw [if_pos h]; exact tw_E_lo hd (by simp only [tw_lo, tw_ar, tw_ld, tw_so, tw_jp, tw_ci, h, decide_true, not_true_eq_false, not_false_eq_true, tw_to_ok ht, ht, Int.natCast_nonneg, and_self, ↓reduceIte])
  · rw [if_neg h]; exact tw_E_lo hd (by simp only [tw_lo, tw_ar, tw_ld, tw_so, tw_jp, tw_ci, h, decide_false, Bool.false_eq_true, ht, Int.natCast_nonneg, and_self, ↓reduceIte])
theorem tw_x_if_lt {x : Int32} {off : Int} {t : Nat} (hd : decode (tw_cd m) pc = .ok (.ifCond .lt off, 3)) (ht : (pc : Int) + off = (t : Int)) : tw_E sc d m pc ls (.int x :: st) g mi mr Q = if x < 0 then tw_E sc d m t ls st g mi mr Q else tw_E sc d m (pc + 3) ls st g mi mr Q := by
  by_cases h : x < 0
  · rw [if_pos h]; exact tw_E_lo hd (by simp only [tw_lo, tw_ar, tw_ld, tw_so, tw_jp, tw_ci, h, decide_true, not_true_eq_false, not_false_eq_true, tw_to_ok ht, ht, Int.natCast_nonneg, and_self, ↓reduceIte])
  · rw [if_neg h]; exact tw_E_lo hd (by simp only [tw_lo, tw_ar, tw_ld, tw_so, tw_jp, tw_ci, h, decide_false, Bool.false_eq_true, ht, Int.natCast_nonneg, and_self, ↓reduceIte])
theorem tw_x_ic_lt {x y : Int32} {off : Int} {t : Nat} (hd : decode (tw_cd m) pc = .ok (.if_icmp .lt off, 3)) (ht : (pc : Int) + off = (t : Int)) : tw_E sc d m pc ls (.int y :: .int x :: st) g mi mr Q = if x < y then tw_E sc d m t ls st g mi mr Q else tw_E sc d m (pc + 3) ls st g mi mr Q := by
  by_cases h : x < y
  · rw [if_pos h]; exact tw_E_lo hd (by simp only [tw_lo, tw_ar, tw_ld, tw_so, tw_jp, tw_ci, h, decide_true, not_true_eq_false, not_false_eq_true, tw_to_ok ht, ht, Int.natCast_nonneg, and_self, ↓reduceIte])
  · rw [if_neg h]; exact tw_E_lo hd (by simp only [tw_lo, tw_ar, tw_ld, tw_so, tw_jp, tw_ci, h, decide_false, Bool.false_eq_true, ht, Int.natCast_nonneg, and_self, ↓reduceIte])
theorem tw_x_if_ge {x : Int32} {off : Int} {t : Nat} (hd : decode (tw_cd m) pc = .ok (.ifCond .ge off, 3)) (ht : (pc : Int) + off = (t : Int)) : tw_E sc d m pc ls (.int x :: st) g mi mr Q = if 0 ≤ x then tw_E sc d m t ls st g mi mr Q else tw_E sc d m (pc + 3) ls st g mi mr Q := by
  by_cases h : 0 ≤ x
  · rw [if_pos h]; exact tw_E_lo hd (by simp only [tw_lo, tw_ar, tw_ld, tw_so, tw_jp, tw_ci, h, decide_true, not_true_eq_false, not_false_eq_true, tw_to_ok ht, ht, Int.natCast_nonneg, and_self, ↓reduceIte])
  · rw [if_neg h]; exact tw_E_lo hd (by simp only [tw_lo, tw_ar, tw_ld, tw_so, tw_jp, tw_ci, h, decide_false, Bool.false_eq_true, ht, Int.natCast_nonneg, and_self, ↓reduceIte])
theorem tw_x_ic_ge {x y : Int32} {off : Int} {t : Nat} (hd : decode (tw_cd m) pc = .ok (.if_icmp .ge off, 3)) (ht : (pc : Int) + off = (t : Int)) : tw_E sc d m pc ls (.int y :: .int x :: st) g mi mr Q = if y ≤ x then tw_E sc d m t ls st g mi mr Q else tw_E sc d m (pc + 3) ls st g mi mr Q := by
  by_cases h : y ≤ x
  · rw [if_pos h]; exact tw_E_lo hd (by simp only [tw_lo, tw_ar, tw_ld, tw_so, tw_jp, tw_ci, h, decide_true, not_true_eq_false, not_false_eq_true, tw_to_ok ht, ht, Int.natCast_nonneg, and_self, ↓reduceIte])
  · rw [if_neg h]; exact tw_E_lo hd (by simp only [tw_lo, tw_ar, tw_ld, tw_so, tw_jp, tw_ci, h, decide_false, Bool.false_eq_true, ht, Int.natCast_nonneg, and_self, ↓reduceIte])
theorem tw_x_if_gt {x : Int32} {off : Int} {t : Nat} (hd : decode (tw_cd m) pc = .ok (.ifCond .gt off, 3)) (ht : (pc : Int) + off = (t : Int)) : tw_E sc d m pc ls (.int x :: st) g mi mr Q = if 0 < x then tw_E sc d m t ls st g mi mr Q else tw_E sc d m (pc + 3) ls st g mi mr Q := by
  by_cases h : 0 < x
  · rw [if_pos h]; exact tw_E_lo hd (by simp only [tw_lo, tw_ar, tw_ld, tw_so, tw_jp, tw_ci, h, decide_true, not_true_eq_false, not_false_eq_true, tw_to_ok ht, ht, Int.natCast_nonneg, and_self, ↓reduceIte])
  · rw [if_neg h]; exact tw_E_lo hd (by simp only [tw_lo, tw_ar, tw_ld, tw_so, tw_jp, tw_ci, h, decide_false, Bool.false_eq_true, ht, Int.natCast_nonneg, and_self, ↓reduceIte])
theorem tw_x_ic_gt {x y : Int32} {off : Int} {t : Nat} (hd : decode (tw_cd m) pc = .ok (.if_icmp .gt off, 3)) (ht : (pc : Int) + off = (t : Int)) : tw_E sc d m pc ls (.int y :: .int x :: st) g mi mr Q = if y < x then tw_E sc d m t ls st g mi mr Q else tw_E sc d m (pc + 3) ls st g mi mr Q := by
  by_cases h : y < x
  · rw [if_pos h]; exact tw_E_lo hd (by simp only [tw_lo, tw_ar, tw_ld, tw_so, tw_jp, tw_ci, h, decide_true, not_true_eq_false, not_false_eq_true, tw_to_ok ht, ht, Int.natCast_nonneg, and_self, ↓reduceIte])
  · rw [if_neg h]; exact tw_E_lo hd (by simp only [tw_lo, tw_ar, tw_ld, tw_so, tw_jp, tw_ci, h, decide_false, Bool.false_eq_true, ht, Int.natCast_nonneg, and_self, ↓reduceIte])
theorem tw_x_if_le {x : Int32} {off : Int} {t : Nat} (hd : decode (tw_cd m) pc = .ok (.ifCond .le off, 3)) (ht : (pc : Int) + off = (t : Int)) : tw_E sc d m pc ls (.int x :: st) g mi mr Q = if x ≤ 0 then tw_E sc d m t ls st g mi mr Q else tw_E sc d m (pc + 3) ls st g mi mr Q := by
  by_cases h : x ≤ 0
  · rw [if_pos h]; exact tw_E_lo hd (by simp only [tw_lo, tw_ar, tw_ld, tw_so, tw_jp, tw_ci, h, decide_true, not_true_eq_false, not_false_eq_true, tw_to_ok ht, ht, Int.natCast_nonneg, and_self, ↓reduceIte])
  · rw [if_neg h]; exact tw_E_lo hd (by simp only [tw_lo, tw_ar, tw_ld, tw_so, tw_jp, tw_ci, h, decide_false, Bool.false_eq_true, ht, Int.natCast_nonneg, and_self, ↓reduceIte])
theorem tw_x_ic_le {x y : Int32} {off : Int} {t : Nat} (hd : decode (tw_cd m) pc = .ok (.if_icmp .le off, 3)) (ht : (pc : Int) + off = (t : Int)) : tw_E sc d m pc ls (.int y :: .int x :: st) g mi mr Q = if x ≤ y then tw_E sc d m t ls st g mi mr Q else tw_E sc d m (pc + 3) ls st g mi mr Q := by
  by_cases h : x ≤ y
  · rw [if_pos h]; exact tw_E_lo hd (by simp only [tw_lo, tw_ar, tw_ld, tw_so, tw_jp, tw_ci, h, decide_true, not_true_eq_false, not_false_eq_true, tw_to_ok ht, ht, Int.natCast_nonneg, and_self, ↓reduceIte])
  · rw [if_neg h]; exact tw_E_lo hd (by simp only [tw_lo, tw_ar, tw_ld, tw_so, tw_jp, tw_ci, h, decide_false, Bool.false_eq_true, ht, Int.natCast_nonneg, and_self, ↓reduceIte])
theorem tw_x_ifnull {x : Nat} {off : Int} (hd : decode (tw_cd m) pc = .ok (.ifnull off, 3)) : tw_E sc d m pc ls (.ref x :: st) g mi mr Q = tw_E sc d m (pc + 3) ls st g mi mr Q := tw_E_lo hd (by simp only [tw_lo, tw_ar, tw_ld, tw_so, tw_jp, ↓reduceIte])
theorem tw_x_ifnullN {off : Int} {t : Nat} (hd : decode (tw_cd m) pc = .ok (.ifnull off, 3)) (ht : (pc : Int) + off = (t : Int)) : tw_E sc d m pc ls (.null :: st) g mi mr Q = tw_E sc d m t ls st g mi mr Q := tw_E_lo hd (by simp only [tw_lo, tw_ar, tw_ld, tw_so, tw_jp, tw_to_ok ht, ↓reduceIte])
theorem tw_x_ifnonnull {x : Nat} {off : Int} {t : Nat} (hd : decode (tw_cd m) pc = .ok (.ifnonnull off, 3)) (ht : (pc : Int) + off = (t : Int)) : tw_E sc d m pc ls (.ref x :: st) g mi mr Q = tw_E sc d m t ls st g mi mr Q := tw_E_lo hd (by simp only [tw_lo, tw_ar, tw_ld, tw_so, tw_jp, tw_to_ok ht, ↓reduceIte])
theorem tw_x_ifnonnullN {off : Int} (hd : decode (tw_cd m) pc = .ok (.ifnonnull off, 3)) : tw_E sc d m pc ls (.null :: st) g mi mr Q = tw_E sc d m (pc + 3) ls st g mi mr Q := tw_E_lo hd (by simp only [tw_lo, tw_ar, tw_ld, tw_so, tw_jp, ↓reduceIte])
/-- the place behind a switch over a row of numbers from lo on -/
def tw_sw (x : Int32) (lo : Int) (ts : List Nat) (dflt : Nat) : Nat := if x.toInt < lo then dflt else ts.getD (x.toInt - lo).toNat dflt
theorem tw_x_ts {dflt lo hi : Int} {offs : Array Int} {len t : Nat} {ts : List Nat} {x : Int32} (hd : decode (tw_cd m) pc = .ok (.tableswitch dflt lo hi offs, len)) (ht : (pc : Int) + dflt = (t : Int)) (hz : (ts.length : Int) = hi - lo + 1) (hs : offs.toList.map (fun o => (pc : Int) + o) = ts.map Int.ofNat) : tw_E sc d m pc ls (.int x :: st) g mi mr Q = tw_E sc d m (tw_sw x lo ts t) ls st g mi mr Q := by
  have hsz : offs.size = ts.length := by
    have := congrArg List.length hs
    simpa using this
  refine tw_E_lo hd ?_
  simp only [tw_lo, tw_ar, tw_ld, tw_so, tw_jp]
  by_cases h1 : x.toInt < lo
  · rw [if_pos (Or.inl h1), tw_to_ok ht]
    simp [tw_sw, h1]
  · by_cases h2 : hi < x.toInt
    · rw [if_pos (Or.inr h2), tw_to_ok ht]
      have h3 : ts.length ≤ (x.toInt - lo).toNat := by omega
      simp [tw_sw, h1, List.getD_eq_getElem?_getD, List.getElem?_eq_none h3]
    · rw [if_neg (by omega)]
      have h3 : (x.toInt - lo).toNat < ts.length := by omega
      have h4 : (x.toInt - lo).toNat < offs.size := by omega
      rw [Array.getElem?_eq_getElem h4]
      have h5 : (pc : Int) + offs[(x.toInt - lo).toNat] = (ts[(x.toInt - lo).toNat] : Nat) := by
        have h6 := congrArg (fun l => l[(x.toInt - lo).toNat]?) hs
        simpa [h3, h4] using h6
      simp only [tw_to_ok h5]
      simp [tw_sw, h1, List.getD_eq_getElem?_getD, List.getElem?_eq_getElem h3]
theorem tw_x_ls {dflt : Int} {ps : Array (Int × Int)} {len t : Nat} {x : Int32} (hd : decode (tw_cd m) pc = .ok (.lookupswitch dflt ps, len)) (hp : (ps.toList.zip (ps.toList.drop 1)).all (fun (a, next) => a.1 < next.1) = true) (ht : (pc : Int) + Op.lookupswitch.offset ps.toList dflt x.toInt = (t : Int)) : tw_E sc d m pc ls (.int x :: st) g mi mr Q = tw_E sc d m t ls st g mi mr Q :=
  tw_E_lo hd (by simp only [tw_lo, tw_ar, tw_ld, tw_so, tw_jp, hp, tw_to_ok ht, ↓reduceIte])
theorem tw_x_l2 {len : Nat} {a1 a2 o1 o2 dflt : Int} {k1 k2 x : Int32} {t1 t2 t : Nat} (hd : decode (tw_cd m) pc = .ok (.lookupswitch dflt #[(a1, o1), (a2, o2)], len)) (h1 : k1.toInt = a1) (h2 : k2.toInt = a2) (e1 : (pc : Int) + o1 = (t1 : Int)) (e2 : (pc : Int) + o2 = (t2 : Int)) (e : (pc : Int) + dflt = (t : Int)) (hp : (decide (a1 < a2)) = true) : tw_E sc d m pc ls (.int x :: st) g mi mr Q = if x = k1 then tw_E sc d m t1 ls st g mi mr Q else if x = k2 then tw_E sc d m t2 ls st g mi mr Q else tw_E sc d m t ls st g mi mr Q := by
  have hp2 : (([(a1, o1), (a2, o2)] : List (Int × Int)).zip (([(a1, o1), (a2, o2)] : List (Int × Int)).drop 1)).all (fun (a, next) => a.1 < next.1) = true := by simpa using hp
  have hne : ∀ {k : Int32} {a : Int}, k.toInt = a → ¬ x = k → ¬ a = x.toInt := fun hk hx he => hx (Int32.toInt_inj.mp (by rw [hk, he]))
  by_cases c1 : x = k1
  · subst c1
    rw [if_pos rfl]
    exact tw_x_ls hd hp2 (by rw [Op.lookupswitch.offset_cons, if_pos h1.symm]; exact e1)
  by_cases c2 : x = k2
  · subst c2
    rw [if_neg c1]; rw [if_pos rfl]
    exact tw_x_ls hd hp2 (by rw [Op.lookupswitch.offset_cons, if_neg (hne h1 c1), Op.lookupswitch.offset_cons, if_pos h2.symm]; exact e2)
  rw [if_neg c1]; rw [if_neg c2]; exact tw_x_ls hd hp2 (by rw [Op.lookupswitch.offset_cons, if_neg (hne h1 c1), Op.lookupswitch.offset_cons, if_neg (hne h2 c2), Op.lookupswitch.offset_nil]; exact e)
theorem tw_x_l3 {len : Nat} {a1 a2 a3 o1 o2 o3 dflt : Int} {k1 k2 k3 x : Int32} {t1 t2 t3 t : Nat} (hd : decode (tw_cd m) pc = .ok (.lookupswitch dflt #[(a1, o1), (a2, o2), (a3, o3)], len)) (h1 : k1.toInt = a1) (h2 : k2.toInt = a2) (h3 : k3.toInt = a3) (e1 : (pc : Int) + o1 = (t1 : Int)) (e2 : (pc : Int) + o2 = (t2 : Int)) (e3 : (pc : Int) + o3 = (t3 : Int)) (e : (pc : Int) + dflt = (t : Int)) (hp : (decide (a1 < a2) && decide (a2 < a3)) = true) : tw_E sc d m pc ls (.int x :: st) g mi mr Q = if x = k1 then tw_E sc d m t1 ls st g mi mr Q else if x = k2 then tw_E sc d m t2 ls st g mi mr Q else if x = k3 then tw_E sc d m t3 ls st g mi mr Q else tw_E sc d m t ls st g mi mr Q := by
  have hp2 : (([(a1, o1), (a2, o2), (a3, o3)] : List (Int × Int)).zip (([(a1, o1), (a2, o2), (a3, o3)] : List (Int × Int)).drop 1)).all (fun (a, next) => a.1 < next.1) = true := by simpa using hp
  have hne : ∀ {k : Int32} {a : Int}, k.toInt = a → ¬ x = k → ¬ a = x.toInt := fun hk hx he => hx (Int32.toInt_inj.mp (by rw [hk, he]))
  by_cases c1 : x = k1
  · subst c1
    rw [if_pos rfl]
    exact tw_x_ls hd hp2 (by rw [Op.lookupswitch.offset_cons, if_pos h1.symm]; exact e1)
  by_cases c2 : x = k2
  · subst c2
    rw [if_neg c1]; rw [if_pos rfl]
    exact tw_x_ls hd hp2 (by rw [Op.lookupswitch.offset_cons, if_neg (hne h1 c1), Op.lookupswitch.offset_cons, if_pos h2.symm]; exact e2)
  by_cases c3 : x = k3
  · subst c3
    rw [if_neg c1]; rw [if_neg c2]; rw [if_pos rfl]
    exact tw_x_ls hd hp2 (by rw [Op.lookupswitch.offset_cons, if_neg (hne h1 c1), Op.lookupswitch.offset_cons, if_neg (hne h2 c2), Op.lookupswitch.offset_cons, if_pos h3.symm]; exact e3)
  rw [if_neg c1]; rw [if_neg c2]; rw [if_neg c3]; exact tw_x_ls hd hp2 (by rw [Op.lookupswitch.offset_cons, if_neg (hne h1 c1), Op.lookupswitch.offset_cons, if_neg (hne h2 c2), Op.lookupswitch.offset_cons, if_neg (hne h3 c3), Op.lookupswitch.offset_nil]; exact e)
theorem tw_x_geti {o i o2 i2 c k p a : Nat} {nn : Bool} (hd : decode (tw_cd m) pc = .ok (.getfield i, 3)) (ho : tw_ow m = o) (hf : tw_fld o i = some (o2, i2, c, k, nn, p)) (hr : tw_rf c k = false) : tw_E sc d m pc ls (.ref a :: st) g mi mr Q = (tw_kd g a = c ∧ tw_E sc d m (pc + 3) ls (.int (mi a k) :: st) g mi mr Q) := by
  subst ho
  by_cases h : tw_kd g a = c
  · rw [tw_E_hp hd (by simp [tw_lo, tw_ar, tw_ld, tw_so, tw_jp]) (show tw_hp sc m d (.getfield i) 3 (.ref a :: st) g mi mr = some (.int (mi a k) :: st, g, mi, mr) by simp [tw_hp, tw_rd, hf, h, hr])]
    simp [h]
  · rw [tw_E_no hd (by simp [tw_lo, tw_ar, tw_ld, tw_so, tw_jp]) (by simp [tw_hp, tw_rd, tw_wr, hf, h]) (by simp [tw_ca]) (by simp [tw_re])]
    simp [h]
theorem tw_x_getr {o i o2 i2 c k p a : Nat} {nn : Bool} (hd : decode (tw_cd m) pc = .ok (.getfield i, 3)) (ho : tw_ow m = o) (hf : tw_fld o i = some (o2, i2, c, k, nn, p)) (hr : tw_rf c k = true) : tw_E sc d m pc ls (.ref a :: st) g mi mr Q = (tw_kd g a = c ∧ tw_E sc d m (pc + 3) ls (va_rf (mr a k) :: st) g mi mr Q) := by
  subst ho
  by_cases h : tw_kd g a = c
  · rw [tw_E_hp hd (by simp [tw_lo, tw_ar, tw_ld, tw_so, tw_jp]) (show tw_hp sc m d (.getfield i) 3 (.ref a :: st) g mi mr = some (va_rf (mr a k) :: st, g, mi, mr) by simp [tw_hp, tw_rd, hf, h, hr])]
    simp [h]
  · rw [tw_E_no hd (by simp [tw_lo, tw_ar, tw_ld, tw_so, tw_jp]) (by simp [tw_hp, tw_rd, tw_wr, hf, h]) (by simp [tw_ca]) (by simp [tw_re])]
    simp [h]
theorem tw_x_puti {o i o2 i2 c k p a : Nat} {x : Int32} (hd : decode (tw_cd m) pc = .ok (.putfield i, 3)) (ho : tw_ow m = o) (hf : tw_fld o i = some (o2, i2, c, k, false, p)) (hn : (tw_fd c k).2.2.1 = false) (hr : tw_ty c k = .int) : tw_E sc d m pc ls (.int x :: .ref a :: st) g mi mr Q = (tw_kd g a = c ∧ tw_E sc d m (pc + 3) ls st g (tw_st mi a (tw_st (mi a) k x)) mr Q) := by
  subst ho
  by_cases h : tw_kd g a = c
  · rw [tw_E_hp hd (by simp [tw_lo, tw_ar, tw_ld, tw_so, tw_jp]) (show tw_hp sc m d (.putfield i) 3 (.int x :: .ref a :: st) g mi mr = some (st, g, tw_st mi a (tw_st (mi a) k x), mr) by simp [tw_hp, tw_rd, tw_wr, hf, h, hn, hr])]
    simp [h]
  · rw [tw_E_no hd (by simp [tw_lo, tw_ar, tw_ld, tw_so, tw_jp]) (by simp [tw_hp, tw_rd, tw_wr, hf, h, hn]) (by simp [tw_ca]) (by simp [tw_re])]
    simp [h]
theorem tw_x_putz {o i o2 i2 c k p a : Nat} {x : Int32} (hd : decode (tw_cd m) pc = .ok (.putfield i, 3)) (ho : tw_ow m = o) (hf : tw_fld o i = some (o2, i2, c, k, false, p)) (hn : (tw_fd c k).2.2.1 = false) (hr : tw_ty c k = .boolean) : tw_E sc d m pc ls (.int x :: .ref a :: st) g mi mr Q = ((tw_kd g a = c ∧ (x = 0 ∨ x = 1)) ∧ tw_E sc d m (pc + 3) ls st g (tw_st mi a (tw_st (mi a) k x)) mr Q) := by
  subst ho
  by_cases h : tw_kd g a = c ∧ (x = 0 ∨ x = 1)
  · rw [tw_E_hp hd (by simp [tw_lo, tw_ar, tw_ld, tw_so, tw_jp]) (show tw_hp sc m d (.putfield i) 3 (.int x :: .ref a :: st) g mi mr = some (st, g, tw_st mi a (tw_st (mi a) k x), mr) by simp [tw_hp, tw_rd, tw_wr, hf, h, hn, hr])]
    simp [h]
  · rw [tw_E_no hd (by simp [tw_lo, tw_ar, tw_ld, tw_so, tw_jp]) (by simp only [tw_hp, tw_rd, tw_wr, hf, hn, hr]; simp [h]) (by simp [tw_ca]) (by simp [tw_re])]
    simp [h]
theorem tw_x_putr {o i o2 i2 c k p a b : Nat} (hd : decode (tw_cd m) pc = .ok (.putfield i, 3)) (ho : tw_ow m = o) (hf : tw_fld o i = some (o2, i2, c, k, false, p)) (hn : (tw_fd c k).2.2.1 = false ∨ ((tw_y m).name = "<init>" ∧ c = o)) (hr : tw_rf c k = true) : tw_E sc d m pc ls (.ref b :: .ref a :: st) g mi mr Q = (tw_kd g a = c ∧ tw_E sc d m (pc + 3) ls st g mi (tw_st mr a (tw_st (mr a) k (some b))) Q) := by
  subst ho
  by_cases h : tw_kd g a = c
  · rw [tw_E_hp hd (by simp [tw_lo, tw_ar, tw_ld, tw_so, tw_jp]) (show tw_hp sc m d (.putfield i) 3 (.ref b :: .ref a :: st) g mi mr = some (st, g, mi, tw_st mr a (tw_st (mr a) k (some b))) by simp only [tw_hp, tw_rd, tw_wr, hf, hn, hr]; simp [h])]
    simp [h]
  · rw [tw_E_no hd (by simp [tw_lo, tw_ar, tw_ld, tw_so, tw_jp]) (by simp only [tw_hp, tw_rd, tw_wr, hf, hn]; simp [h]) (by simp [tw_ca]) (by simp [tw_re])]
    simp [h]
theorem tw_x_iald {a : Nat} {j : Int32} (hd : decode (tw_cd m) pc = .ok (.iaload, 1)) : tw_E sc d m pc ls (.int j :: .ref a :: st) g mi mr Q = ((tw_kd g a = 20 ∧ vp_in j (tw_ln g a)) ∧ tw_E sc d m (pc + 1) ls (.int (mi a j.toNatClampNeg) :: st) g mi mr Q) := by
  by_cases h : tw_kd g a = 20 ∧ ¬ (j < 0 ∨ tw_ln g a ≤ j.toNatClampNeg)
  · rw [tw_E_hp hd (by simp [tw_lo, tw_ar, tw_ld, tw_so, tw_jp]) (show tw_hp sc m d (.iaload) 1 (.int j :: .ref a :: st) g mi mr = some (.int (mi a j.toNatClampNeg) :: st, g, mi, mr) by simp only [tw_hp, tw_rd, if_pos h, ↓reduceIte])]
    exact propext ⟨fun q => ⟨h, q⟩, fun q => q.2⟩
  · rw [tw_E_no hd (by simp [tw_lo, tw_ar, tw_ld, tw_so, tw_jp]) (by simp only [tw_hp, tw_rd, tw_wr, if_neg h, ↓reduceIte]) (by simp [tw_ca]) (by simp [tw_re])]
    exact propext ⟨fun q => q.elim, fun q => h q.1⟩
theorem tw_x_zald {a : Nat} {j : Int32} (hd : decode (tw_cd m) pc = .ok (.baload, 1)) : tw_E sc d m pc ls (.int j :: .ref a :: st) g mi mr Q = ((tw_kd g a = 21 ∧ vp_in j (tw_ln g a)) ∧ tw_E sc d m (pc + 1) ls (.int (mi a j.toNatClampNeg) :: st) g mi mr Q) := by
  by_cases h : tw_kd g a = 21 ∧ ¬ (j < 0 ∨ tw_ln g a ≤ j.toNatClampNeg)
  · rw [tw_E_hp hd (by simp [tw_lo, tw_ar, tw_ld, tw_so, tw_jp]) (show tw_hp sc m d (.baload) 1 (.int j :: .ref a :: st) g mi mr = some (.int (mi a j.toNatClampNeg) :: st, g, mi, mr) by simp only [tw_hp, tw_rd, if_pos h, ↓reduceIte])]
    exact propext ⟨fun q => ⟨h, q⟩, fun q => q.2⟩
  · rw [tw_E_no hd (by simp [tw_lo, tw_ar, tw_ld, tw_so, tw_jp]) (by simp only [tw_hp, tw_rd, tw_wr, if_neg h, ↓reduceIte]) (by simp [tw_ca]) (by simp [tw_re])]
    exact propext ⟨fun q => q.elim, fun q => h q.1⟩
theorem tw_x_aald {a : Nat} {j : Int32} (hd : decode (tw_cd m) pc = .ok (.aaload, 1)) : tw_E sc d m pc ls (.int j :: .ref a :: st) g mi mr Q = ((tw_kd g a = 22 ∧ vp_in j (tw_ln g a)) ∧ tw_E sc d m (pc + 1) ls (va_rf (mr a j.toNatClampNeg) :: st) g mi mr Q) := by
  by_cases h : tw_kd g a = 22 ∧ ¬ (j < 0 ∨ tw_ln g a ≤ j.toNatClampNeg)
  · rw [tw_E_hp hd (by simp [tw_lo, tw_ar, tw_ld, tw_so, tw_jp]) (show tw_hp sc m d (.aaload) 1 (.int j :: .ref a :: st) g mi mr = some (va_rf (mr a j.toNatClampNeg) :: st, g, mi, mr) by simp only [tw_hp, tw_rd, if_pos h, ↓reduceIte])]
    exact propext ⟨fun q => ⟨h, q⟩, fun q => q.2⟩
  · rw [tw_E_no hd (by simp [tw_lo, tw_ar, tw_ld, tw_so, tw_jp]) (by simp only [tw_hp, tw_rd, tw_wr, if_neg h, ↓reduceIte]) (by simp [tw_ca]) (by simp [tw_re])]
    exact propext ⟨fun q => q.elim, fun q => h q.1⟩
theorem tw_x_sald {a : Nat} {j : Int32} (hd : decode (tw_cd m) pc = .ok (.iaload, 1)) : tw_E sc d m pc ls (.int j :: .retAddr a :: st) g mi mr Q = (vp_in j sc.1 ∧ tw_E sc d m (pc + 1) ls (.int (sc.2 j.toNatClampNeg) :: st) g mi mr Q) := by
  by_cases h : ¬ (j < 0 ∨ sc.1 ≤ j.toNatClampNeg)
  · rw [tw_E_hp hd (by simp [tw_lo, tw_ar, tw_ld, tw_so, tw_jp]) (show tw_hp sc m d (.iaload) 1 (.int j :: .retAddr a :: st) g mi mr = some (.int (sc.2 j.toNatClampNeg) :: st, g, mi, mr) by simp only [tw_hp, tw_rd, if_pos h, ↓reduceIte])]
    exact propext ⟨fun q => ⟨h, q⟩, fun q => q.2⟩
  · rw [tw_E_no hd (by simp [tw_lo, tw_ar, tw_ld, tw_so, tw_jp]) (by simp only [tw_hp, tw_rd, tw_wr, if_neg h, ↓reduceIte]) (by simp [tw_ca]) (by simp [tw_re])]
    exact propext ⟨fun q => q.elim, fun q => h q.1⟩
theorem tw_x_slen {a : Nat} (hd : decode (tw_cd m) pc = .ok (.arraylength, 1)) : tw_E sc d m pc ls (.retAddr a :: st) g mi mr Q = tw_E sc d m (pc + 1) ls (.int (Int32.ofNat sc.1) :: st) g mi mr Q := tw_E_hp hd (by simp [tw_lo, tw_ar, tw_ld, tw_so, tw_jp]) (by simp [tw_hp, tw_rd])
theorem tw_x_iast {a : Nat} {j x : Int32} (hd : decode (tw_cd m) pc = .ok (.iastore, 1)) : tw_E sc d m pc ls (.int x :: .int j :: .ref a :: st) g mi mr Q = ((tw_kd g a = 20 ∧ vp_in j (tw_ln g a)) ∧ tw_E sc d m (pc + 1) ls st g (tw_st mi a (tw_st (mi a) j.toNatClampNeg x)) mr Q) := by
  by_cases h : tw_kd g a = 20 ∧ ¬ (j < 0 ∨ tw_ln g a ≤ j.toNatClampNeg)
  · rw [tw_E_hp hd (by simp [tw_lo, tw_ar, tw_ld, tw_so, tw_jp]) (show tw_hp sc m d (.iastore) 1 (.int x :: .int j :: .ref a :: st) g mi mr = some (st, g, tw_st mi a (tw_st (mi a) j.toNatClampNeg x), mr) by simp only [tw_hp, tw_rd, tw_wr, if_pos h, ↓reduceIte])]
    exact propext ⟨fun q => ⟨h, q⟩, fun q => q.2⟩
  · rw [tw_E_no hd (by simp [tw_lo, tw_ar, tw_ld, tw_so, tw_jp]) (by simp only [tw_hp, tw_rd, tw_wr, if_neg h, ↓reduceIte]) (by simp [tw_ca]) (by simp [tw_re])]
    exact propext ⟨fun q => q.elim, fun q => h q.1⟩
theorem tw_x_zast {a : Nat} {j x : Int32} (hd : decode (tw_cd m) pc = .ok (.bastore, 1)) : tw_E sc d m pc ls (.int x :: .int j :: .ref a :: st) g mi mr Q = ((tw_kd g a = 21 ∧ (x = 0 ∨ x = 1) ∧ vp_in j (tw_ln g a)) ∧ tw_E sc d m (pc + 1) ls st g (tw_st mi a (tw_st (mi a) j.toNatClampNeg x)) mr Q) := by
  by_cases h : tw_kd g a = 21 ∧ (x = 0 ∨ x = 1) ∧ ¬ (j < 0 ∨ tw_ln g a ≤ j.toNatClampNeg)
  · rw [tw_E_hp hd (by simp [tw_lo, tw_ar, tw_ld, tw_so, tw_jp]) (show tw_hp sc m d (.bastore) 1 (.int x :: .int j :: .ref a :: st) g mi mr = some (st, g, tw_st mi a (tw_st (mi a) j.toNatClampNeg x), mr) by simp only [tw_hp, tw_rd, tw_wr, if_pos h, ↓reduceIte])]
    exact propext ⟨fun q => ⟨h, q⟩, fun q => q.2⟩
  · rw [tw_E_no hd (by simp [tw_lo, tw_ar, tw_ld, tw_so, tw_jp]) (by simp only [tw_hp, tw_rd, tw_wr, if_neg h, ↓reduceIte]) (by simp [tw_ca]) (by simp [tw_re])]
    exact propext ⟨fun q => q.elim, fun q => h q.1⟩
theorem tw_x_aast {a b : Nat} {j : Int32} (hd : decode (tw_cd m) pc = .ok (.aastore, 1)) : tw_E sc d m pc ls (.ref b :: .int j :: .ref a :: st) g mi mr Q = ((tw_kd g a = 22 ∧ tw_kd g b = 2 ∧ vp_in j (tw_ln g a)) ∧ tw_E sc d m (pc + 1) ls st g mi (tw_st mr a (tw_st (mr a) j.toNatClampNeg (some b))) Q) := by
  by_cases h : tw_kd g a = 22 ∧ tw_kd g b = 2 ∧ ¬ (j < 0 ∨ tw_ln g a ≤ j.toNatClampNeg)
  · rw [tw_E_hp hd (by simp [tw_lo, tw_ar, tw_ld, tw_so, tw_jp]) (show tw_hp sc m d (.aastore) 1 (.ref b :: .int j :: .ref a :: st) g mi mr = some (st, g, mi, tw_st mr a (tw_st (mr a) j.toNatClampNeg (some b))) by simp only [tw_hp, tw_rd, tw_wr, if_pos h, ↓reduceIte])]
    exact propext ⟨fun q => ⟨h, q⟩, fun q => q.2⟩
  · rw [tw_E_no hd (by simp [tw_lo, tw_ar, tw_ld, tw_so, tw_jp]) (by simp only [tw_hp, tw_rd, tw_wr, if_neg h, ↓reduceIte]) (by simp [tw_ca]) (by simp [tw_re])]
    exact propext ⟨fun q => q.elim, fun q => h q.1⟩
theorem tw_x_new {o i o2 i2 c p1 p2 p3 n : Nat} (hd : decode (tw_cd m) pc = .ok (.new i, 3)) (ho : tw_ow m = o) (hf : tw_new o i = some (o2, i2, c, p1, p2, p3)) (hn : tw_N c = n) : tw_E sc d m pc ls st g mi mr Q = tw_E sc d m (pc + 3) ls (.ref g.1 :: st) (tw_gn g c 0 n) (tw_st mi g.1 (fun _ => 0)) (tw_st mr g.1 (fun _ => none)) Q := by
  subst ho
  subst hn
  exact tw_E_hp hd (by simp [tw_lo, tw_ar, tw_ld, tw_so, tw_jp]) (by simp [tw_hp, tw_rd, tw_wr, hf])
theorem tw_x_newi {n : Int32} {N : Nat} (hd : decode (tw_cd m) pc = .ok (.newarray .int, 2)) (hn : (decide (¬ n < 0) && (decide (n.toNatClampNeg = N) && decide (N ≤ 100000))) = true) : tw_E sc d m pc ls (.int n :: st) g mi mr Q = tw_E sc d m (pc + 2) ls (.ref g.1 :: st) (tw_gn g 20 N N) (tw_st mi g.1 (fun _ => 0)) (tw_st mr g.1 (fun _ => none)) Q := by
  simp only [Bool.and_eq_true, decide_eq_true_eq] at hn
  obtain ⟨h1, rfl, h2⟩ := hn
  exact tw_E_hp hd (by simp [tw_lo, tw_ar, tw_ld, tw_so, tw_jp]) (by simp only [tw_hp, tw_rd, tw_wr, if_pos (And.intro h1 h2), ↓reduceIte])
theorem tw_x_newz {n : Int32} {N : Nat} (hd : decode (tw_cd m) pc = .ok (.newarray .boolean, 2)) (hn : (decide (¬ n < 0) && (decide (n.toNatClampNeg = N) && decide (N ≤ 100000))) = true) : tw_E sc d m pc ls (.int n :: st) g mi mr Q = tw_E sc d m (pc + 2) ls (.ref g.1 :: st) (tw_gn g 21 N N) (tw_st mi g.1 (fun _ => 0)) (tw_st mr g.1 (fun _ => none)) Q := by
  simp only [Bool.and_eq_true, decide_eq_true_eq] at hn
  obtain ⟨h1, rfl, h2⟩ := hn
  exact tw_E_hp hd (by simp [tw_lo, tw_ar, tw_ld, tw_so, tw_jp]) (by simp only [tw_hp, tw_rd, tw_wr, if_pos (And.intro h1 h2), ↓reduceIte])
theorem tw_x_newr {n : Int32} {N : Nat} (hd : decode (tw_cd m) pc = .ok (.anewarray 9, 3)) (ho : tw_ow m = 1) (hn : (decide (¬ n < 0) && (decide (n.toNatClampNeg = N) && decide (N ≤ 100000))) = true) : tw_E sc d m pc ls (.int n :: st) g mi mr Q = tw_E sc d m (pc + 3) ls (.ref g.1 :: st) (tw_gn g 22 N N) (tw_st mi g.1 (fun _ => 0)) (tw_st mr g.1 (fun _ => none)) Q := by
  simp only [Bool.and_eq_true, decide_eq_true_eq] at hn
  obtain ⟨h1, rfl, h2⟩ := hn
  exact tw_E_hp hd (by simp [tw_lo, tw_ar, tw_ld, tw_so, tw_jp]) (by simp only [tw_hp, tw_rd, tw_wr, ho, if_pos (And.intro h1 h2), and_self, ↓reduceIte])
theorem tw_x_ldc {o i o2 i2 p : Nat} {v : Int32} (hd : decode (tw_cd m) pc = .ok (.ldc i, 2)) (ho : tw_ow m = o) (hf : tw_ldc o i = some (o2, i2, v, p)) : tw_E sc d m pc ls st g mi mr Q = tw_E sc d m (pc + 2) ls (.int v :: st) g mi mr Q := by
  subst ho
  exact tw_E_hp hd (by simp [tw_lo, tw_ar, tw_ld, tw_so, tw_jp]) (by simp [tw_hp, tw_rd, hf])
theorem tw_x_ldl {o i o2 i2 p : Nat} {v : Int64} (hd : decode (tw_cd m) pc = .ok (.ldc2_w i, 3)) (ho : tw_ow m = o) (hf : tw_ldl o i = some (o2, i2, v, p)) : tw_E sc d m pc ls st g mi mr Q = tw_E sc d m (pc + 3) ls (.long v :: st) g mi mr Q := by
  subst ho
  exact tw_E_hp hd (by simp [tw_lo, tw_ar, tw_ld, tw_so, tw_jp]) (by simp [tw_hp, tw_rd, hf])
theorem tw_x_max {o i o2 i2 p1 p2 p3 p4 : Nat} {x y : Int32} (hd : decode (tw_cd m) pc = .ok (.invokestatic i, 3)) (ho : tw_ow m = o) (hf : tw_mat o i = some (o2, i2, true, p1, p2, p3, p4)) (hr : st.length ≤ 4) : tw_E sc (d + 1) m pc ls (.int y :: .int x :: st) g mi mr Q = tw_E sc (d + 1) m (pc + 3) ls (.int (if x < y then y else x) :: st) g mi mr Q := by
  subst ho
  exact tw_E_hp hd (by simp [tw_lo, tw_ar, tw_ld, tw_so, tw_jp]) (by simp [tw_hp, tw_rd, hf, hr])
theorem tw_x_min {o i o2 i2 p1 p2 p3 p4 : Nat} {x y : Int32} (hd : decode (tw_cd m) pc = .ok (.invokestatic i, 3)) (ho : tw_ow m = o) (hf : tw_mat o i = some (o2, i2, false, p1, p2, p3, p4)) (hr : st.length ≤ 4) : tw_E sc (d + 1) m pc ls (.int y :: .int x :: st) g mi mr Q = tw_E sc (d + 1) m (pc + 3) ls (.int (if y < x then y else x) :: st) g mi mr Q := by
  subst ho
  exact tw_E_hp hd (by simp [tw_lo, tw_ar, tw_ld, tw_so, tw_jp]) (by simp [tw_hp, tw_rd, hf, hr])
theorem tw_x_obj {o i o2 i2 p a : Nat} (hd : decode (tw_cd m) pc = .ok (.invokespecial i, 3)) (ho : tw_ow m = o) (hf : tw_oin o i = some (o2, i2, p)) (hr : st.length ≤ 4) : tw_E sc (d + 1) m pc ls (.ref a :: st) g mi mr Q = tw_E sc (d + 1) m (pc + 3) ls st g mi mr Q := by
  subst ho
  exact tw_E_hp hd (by simp [tw_lo, tw_ar, tw_ld, tw_so, tw_jp]) (by simp [tw_hp, tw_rd, hf, hr])
/-! calls -/
theorem tw_x_cs {o i o2 i2 kk k n p1 p2 p3 p4 : Nat} {as r : List Value} {l0 : tw_L} (hd : decode (tw_cd m) pc = .ok (.invokestatic i, 3)) (ho : tw_ow m = o) (hz : tw_mat o i = none) (hf : tw_cal o i = some (o2, i2, kk, k, n, p1, p2, p3, p4)) (hk : kk % 3 = 0) (hn : as.length = n) (hst : st = as.reverse ++ r) (hl : tw_n0 k as = l0) (hcond : (decide (r.length ≤ 4) && (decide (k < tw_ny) && (decide (tw_lg 0 as = tw_lp k) && decide ((tw_en as).length ≤ tw_ml k)))) = true) : tw_E sc (d + 1) m pc ls st g mi mr Q = tw_E sc d k 0 l0 [] g mi mr (tw_K sc (d + 1) m (pc + 3) ls r Q) := by
  subst ho
  subst hl
  subst hst
  subst hn
  have h0 : tw_rd sc m (d + 1) (.invokestatic i) 3 (as.reverse ++ r) g mi mr = none := by
    simp only [tw_rd, hz]
    (repeat' split) <;> rfl
  refine tw_E_ca hd (by simp [tw_lo, tw_ar, tw_ld, tw_so, tw_jp]) ?_ ?_ hcond
  · simp only [tw_hp, h0, tw_wr]
  · simp [tw_ca, hf, hk]
theorem tw_x_cv {o i o2 i2 k n p1 p2 p3 p4 b c : Nat} {as r : List Value} {l0 : tw_L} (hd : decode (tw_cd m) pc = .ok (.invokevirtual i, 3)) (ho : tw_ow m = o) (hf : tw_cal o i = some (o2, i2, 1, k, n, p1, p2, p3, p4)) (hc : tw_ow k = c) (hn : as.length = n) (hst : st = as.reverse ++ .ref b :: r) (hl : tw_n0 k (.ref b :: as) = l0) (hcond : (decide (r.length ≤ 4) && (decide (k < tw_ny) && (decide (tw_lg 0 (.ref b :: as) = tw_lp k) && decide ((tw_en (.ref b :: as)).length ≤ tw_ml k)))) = true) : tw_E sc (d + 1) m pc ls st g mi mr Q = (tw_kd g b = c ∧ tw_E sc d k 0 l0 [] g mi mr (tw_K sc (d + 1) m (pc + 3) ls r Q)) := by
  subst ho
  subst hl
  subst hst
  subst hn
  subst hc
  by_cases h : tw_kd g b = tw_ow k
  · rw [tw_E_ca hd (by simp [tw_lo, tw_ar, tw_ld, tw_so, tw_jp]) (by simp [tw_hp, tw_rd, tw_wr]) (show tw_ca m (.invokevirtual i) 3 (as.reverse ++ .ref b :: r) g = some (k, .ref b :: as, r) by simp [tw_ca, hf, h]) hcond]
    exact propext ⟨fun q => ⟨h, q⟩, fun q => q.2⟩
  · rw [tw_E_no hd (by simp [tw_lo, tw_ar, tw_ld, tw_so, tw_jp]) (by simp [tw_hp, tw_rd, tw_wr]) (by simp [tw_ca, hf, h]) (by simp [tw_re])]
    exact propext ⟨fun q => q.elim, fun q => h q.1⟩
theorem tw_x_ci {o i o2 i2 kk k n p1 p2 p3 p4 b : Nat} {as r : List Value} {l0 : tw_L} (hd : decode (tw_cd m) pc = .ok (.invokespecial i, 3)) (ho : tw_ow m = o) (hz : tw_oin o i = none) (hf : tw_cal o i = some (o2, i2, kk, k, n, p1, p2, p3, p4)) (hk : kk % 3 = 2) (hn : as.length = n) (hst : st = as.reverse ++ .ref b :: r) (hl : tw_n0 k (.ref b :: as) = l0) (hcond : (decide (r.length ≤ 4) && (decide (k < tw_ny) && (decide (tw_lg 0 (.ref b :: as) = tw_lp k) && decide ((tw_en (.ref b :: as)).length ≤ tw_ml k)))) = true) : tw_E sc (d + 1) m pc ls st g mi mr Q = tw_E sc d k 0 l0 [] g mi mr (tw_K sc (d + 1) m (pc + 3) ls r Q) := by
  subst ho
  subst hl
  subst hst
  subst hn
  have h0 : tw_rd sc m (d + 1) (.invokespecial i) 3 (as.reverse ++ .ref b :: r) g mi mr = none := by
    simp only [tw_rd, hz]
    (repeat' split) <;> rfl
  refine tw_E_ca hd (by simp [tw_lo, tw_ar, tw_ld, tw_so, tw_jp]) ?_ ?_ hcond
  · simp only [tw_hp, h0, tw_wr]
  · simp [tw_ca, hf, hk]
/-! ends -/
theorem tw_x_iret {v : Int32} (hd : decode (tw_cd m) pc = .ok (.ireturn, 1)) (hr : tw_rt m = some .int) : tw_E sc d m pc ls [.int v] g mi mr Q = Q (some (.int v)) g mi mr := tw_E_re hd (by simp [tw_lo, tw_ar, tw_ld, tw_so, tw_jp]) (by simp [tw_hp, tw_rd, tw_wr]) (by simp [tw_ca]) (by simp [tw_re, hr])
theorem tw_x_zret {v : Int32} (hd : decode (tw_cd m) pc = .ok (.ireturn, 1)) (hr : tw_rt m = some .boolean) : tw_E sc d m pc ls [.int v] g mi mr Q = ((v = 0 ∨ v = 1) ∧ Q (some (.int v)) g mi mr) := by
  by_cases h : v = 0 ∨ v = 1
  · rw [tw_E_re hd (by simp [tw_lo, tw_ar, tw_ld, tw_so, tw_jp]) (by simp [tw_hp, tw_rd, tw_wr]) (by simp [tw_ca]) (show tw_re m .ireturn 1 [.int v] = some (some (.int v)) by simp [tw_re, hr, h])]
    simp [h]
  · rw [tw_E_no hd (by simp [tw_lo, tw_ar, tw_ld, tw_so, tw_jp]) (by simp [tw_hp, tw_rd, tw_wr]) (by simp [tw_ca]) (by simp [tw_re, hr, h])]
    simp [h]
theorem tw_x_aret {c : String} {v : Nat} (hd : decode (tw_cd m) pc = .ok (.areturn, 1)) (hr : tw_rt m = some (.object c)) : tw_E sc d m pc ls [.ref v] g mi mr Q = Q (some (.ref v)) g mi mr := tw_E_re hd (by simp [tw_lo, tw_ar, tw_ld, tw_so, tw_jp]) (by simp [tw_hp, tw_rd, tw_wr]) (by simp [tw_ca]) (by simp [tw_re, hr])
theorem tw_x_aretN {c : String} (hd : decode (tw_cd m) pc = .ok (.areturn, 1)) (hr : tw_rt m = some (.object c)) : tw_E sc d m pc ls [.null] g mi mr Q = Q (some .null) g mi mr := tw_E_re hd (by simp [tw_lo, tw_ar, tw_ld, tw_so, tw_jp]) (by simp [tw_hp, tw_rd, tw_wr]) (by simp [tw_ca]) (by simp [tw_re, hr])
theorem tw_x_vret (hd : decode (tw_cd m) pc = .ok (.return_, 1)) (hr : tw_rt m = none) : tw_E sc d m pc ls [] g mi mr Q = Q none g mi mr := tw_E_re hd (by simp [tw_lo, tw_ar, tw_ld, tw_so, tw_jp]) (by simp [tw_hp, tw_rd, tw_wr]) (by simp [tw_ca]) (by simp [tw_re, hr])
end tw_laws
