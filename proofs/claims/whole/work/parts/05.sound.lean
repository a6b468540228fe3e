/-! the small machine tells what the machine does: cell a of the small one lies at B + a -/
def tw_cv (B b : Nat) : Value → Value
  | .ref a => .ref (B + a)
  | .retAddr _ => .ref b
  | v => v
def tw_fv (B : Nat) (mi : tw_I) (mr : tw_Q) (c a k : Nat) : Value := if tw_rf c k = true then va_rf ((mr a k).map (B + ·)) else .int (mi a k)
def tw_cell (D : va_G) (B : Nat) (U : State) (H : Heap) (g : tw_G) (mi : tw_I) (mr : tw_Q) (a : Nat) : Prop :=
  (tw_kd g a < 11 ∧ t_OB (B + a) (D.1 (tw_kd g a)) (tw_N (tw_kd g a)) (D.2 (tw_kd g a)) H (tw_fv B mi mr (tw_kd g a) a)) ∨
  (tw_kd g a = 20 ∧ ∃ cA, H[B + a]? = some (arrV cA (tw_ln g a) (fun j => .int (mi a j))) ∧ ArrOfT U cA .int) ∨
  (tw_kd g a = 21 ∧ ∃ cA, H[B + a]? = some (arrV cA (tw_ln g a) (fun j => .int (mi a j))) ∧ ArrOfT U cA .boolean) ∨
  (tw_kd g a = 22 ∧ ∃ cA, H[B + a]? = some (arrV cA (tw_ln g a) (fun j => va_rf ((mr a j).map (B + ·)))) ∧ ArrOfT U cA (.object tw_R2) ∧ va_RA U cA (.object tw_R2))
def tw_H (D : va_G) (B : Nat) (U : State) (H : Heap) (g : tw_G) (mi : tw_I) (mr : tw_Q) : Prop := H.size = B + g.1 ∧ (∀ a, g.1 ≤ a → tw_kd g a = 99) ∧ ∀ a, a < g.1 → tw_cell D B U H g mi mr a
def tw_NX (U : State) : Prop := (∀ q ∈ tw_fls, q.2.2.2.2.1 = true → va_Nw (.fieldLinkNest (tw_R q.1) q.2.1 (tw_R q.2.2.1) (tw_fd q.2.2.1 q.2.2.2.1).1 (tw_fd q.2.2.1 q.2.2.2.1).2.1 tw_R0) U) ∧ (∀ q ∈ tw_cls, ¬ q.2.2.1 < 3 → va_Nw (.methodLinkNest (tw_R q.1) q.2.1 (tw_y q.2.2.2.1) tw_R0) U) ∧ va_AO tw_R2 U
def tw_Fr (B : Nat) (H0 H : Heap) (locs : List Loc) : Prop := (∀ q, q < B → H[q]? = H0[q]?) ∧ ∀ z ∈ locs, B ≤ z.base
def tw_as (B b : Nat) : Nat → tw_L → List (Nat × Value)
  | _, [] => []
  | i, none :: t => tw_as B b (i + 1) t
  | i, some v :: t => (i, tw_cv B b v) :: tw_as B b (i + 1) t
def tw_LS (B b : Nat) (cs : Array Slot) (k : Nat) (ls : tw_L) : Prop := lv_has cs (tw_ml k) (tw_as B b 0 ls) ∧ ls.length = tw_ml k ∧ ∀ i v, ls[i]? = some (some v) → v.category = 2 → i ∈ tw_lp k
theorem tw_cat (B b : Nat) (v : Value) : (tw_cv B b v).category = v.category := by cases v <;> rfl
theorem tw_cv_rf (B b : Nat) (o : Option Nat) : tw_cv B b (va_rf o) = va_rf (o.map (B + ·)) := by cases o <;> rfl
theorem tw_cell_moved {D : va_G} {B : Nat} {u U : State} {H : Heap} {g : tw_G} {mi : tw_I} {mr : tw_Q} {a : Nat} (hvm : u.vm.Alike U.vm) (h : tw_cell D B u H g mi mr a) : tw_cell D B U H g mi mr a := by
  rcases h with h | ⟨h, cA, h1, h2⟩ | ⟨h, cA, h1, h2⟩ | ⟨h, cA, h1, h2, h3⟩
  · exact Or.inl h
  · exact Or.inr (Or.inl ⟨h, cA, h1, arrOfT_moved hvm h2⟩)
  · exact Or.inr (Or.inr (Or.inl ⟨h, cA, h1, arrOfT_moved hvm h2⟩))
  · exact Or.inr (Or.inr (Or.inr ⟨h, cA, h1, arrOfT_moved hvm h2, h3.moved hvm⟩))
theorem tw_H_moved {D : va_G} {B : Nat} {u U : State} {H : Heap} {g : tw_G} {mi : tw_I} {mr : tw_Q} (hvm : u.vm.Alike U.vm) (h : tw_H D B u H g mi mr) : tw_H D B U H g mi mr := ⟨h.1, h.2.1, fun a ha => tw_cell_moved hvm (h.2.2 a ha)⟩
theorem tw_cell_kept {D : va_G} {B : Nat} {U : State} {H H1 : Heap} {g g1 : tw_G} {mi mi1 : tw_I} {mr mr1 : tw_Q} {a : Nat} (h : tw_cell D B U H g mi mr a) (hq : H1[B + a]? = H[B + a]?) (hg : g1.2.2 a = g.2.2 a) (hi : mi1 a = mi a) (hr : mr1 a = mr a) : tw_cell D B U H1 g1 mi1 mr1 a := by
  have e1 : tw_kd g1 a = tw_kd g a := by unfold tw_kd; rw [hg]
  have e2 : tw_ln g1 a = tw_ln g a := by unfold tw_ln; rw [hg]
  have e3 : ∀ c, tw_fv B mi1 mr1 c a = tw_fv B mi mr c a := fun c => by funext k; simp only [tw_fv, hi, hr]
  unfold tw_cell at h ⊢
  rw [e1, e2, e3, hq, hi, hr]
  rcases h with h | h
  · exact Or.inl ⟨h.1, h.2.kept hq⟩
  · exact Or.inr h
theorem tw_as_mem {B b : Nat} {q : Nat × Value} : ∀ (ls : tw_L) (i : Nat), q ∈ tw_as B b i ls ↔ ∃ (k : Nat) (v : Value), ls[k]? = some (some v) ∧ q = (i + k, tw_cv B b v) := by
  intro ls
  induction ls with
  | nil => intro i; simp [tw_as]
  | cons x t ih =>
    intro i
    cases x with
    | none =>
      rw [tw_as, ih]
      constructor
      · rintro ⟨k, v, h1, h2⟩
        exact ⟨k + 1, v, by simpa using h1, by rw [h2]; congr 1; omega⟩
      · rintro ⟨k, v, h1, h2⟩
        cases k with
        | zero => simp at h1
        | succ k => exact ⟨k, v, by simpa using h1, by rw [h2]; congr 1; omega⟩
    | some w =>
      rw [tw_as, List.mem_cons, ih]
      constructor
      · rintro (h | ⟨k, v, h1, h2⟩)
        · exact ⟨0, w, rfl, by simpa using h⟩
        · exact ⟨k + 1, v, by simpa using h1, by rw [h2]; congr 1; omega⟩
      · rintro ⟨k, v, h1, h2⟩
        cases k with
        | zero =>
          simp at h1
          subst h1
          exact Or.inl (by simpa using h2)
        | succ k => exact Or.inr ⟨k, v, by simpa using h1, by rw [h2]; congr 1; omega⟩
theorem tw_LS_at {B b : Nat} {cs : Array Slot} {k : Nat} {ls : tw_L} (h : tw_LS B b cs k ls) {i : Nat} {v : Value} (hi : ls[i]? = some (some v)) : cs[i]? = some (.val (tw_cv B b v)) := by
  have := h.1.2.2 (i, tw_cv B b v) ((tw_as_mem ls 0).mpr ⟨i, v, hi, by simp⟩)
  exact this
theorem tw_LS_set {B b : Nat} {cs cs' : Array Slot} {k : Nat} {ls ls' : tw_L} (h : tw_LS B b cs k ls) {i : Nat} {v : Value} (hs : tw_sto k i v ls = some ls') (hv : v.category = 1) (h' : lv_has cs' (tw_ml k) ((i, tw_cv B b v) :: (tw_as B b 0 ls).filter (fun q => !(q.1 == i) && !(q.1 + 1 == i && q.2.category == 2)))) : tw_LS B b cs' k ls' := by
  unfold tw_sto at hs
  split at hs
  case isFalse => cases hs
  case isTrue hc =>
    cases hs
    obtain ⟨hlt, hall⟩ := hc
    refine ⟨⟨h'.1, h'.2.1, fun q hq => ?_⟩, by rw [List.length_set]; exact h.2.1, fun j w hj hw => ?_⟩
    · obtain ⟨j, w, h1, h2⟩ := (tw_as_mem _ 0).mp hq
      rw [h2]
      refine h'.2.2 _ ?_
      by_cases hji : j = i
      · subst hji
        rw [List.getElem?_set_self hlt] at h1
        cases h1
        simp
      · rw [List.getElem?_set_ne (Ne.symm hji)] at h1
        refine List.mem_cons_of_mem _ (List.mem_filter.mpr ⟨(tw_as_mem ls 0).mpr ⟨j, w, h1, rfl⟩, ?_⟩)
        simp only [Nat.zero_add, Bool.and_eq_true, Bool.not_eq_true', beq_eq_false_iff_ne, ne_eq, Bool.and_eq_false_iff, tw_cat]
        refine ⟨hji, ?_⟩
        by_cases hc2 : w.category = 2
        · have hm := h.2.2 j w h1 hc2
          have := List.all_eq_true.mp hall j hm
          simp only [Bool.and_eq_true, bne_iff_ne, ne_eq] at this
          exact Or.inl (fun e => this.2 e.symm)
        · exact Or.inr hc2
    · by_cases hji : j = i
      · subst hji
        rw [List.getElem?_set_self hlt] at hj
        cases hj
        omega
      · rw [List.getElem?_set_ne (Ne.symm hji)] at hj
        exact h.2.2 j w hj hw
theorem tw_sto_lt {k i : Nat} {v : Value} {ls ls' : tw_L} (hs : tw_sto k i v ls = some ls') : i < ls.length := by
  unfold tw_sto at hs
  split at hs
  case isFalse => cases hs
  case isTrue hc => exact hc.1
theorem tw_as_none (B b : Nat) (n : Nat) : ∀ i, tw_as B b i (List.replicate n none) = [] := by
  induction n with
  | zero => intro i; rfl
  | succ n ih => intro i; rw [List.replicate_succ, tw_as]; exact ih _
theorem tw_as_en (B b : Nat) (n : Nat) : ∀ (as : List Value) (i : Nat), tw_as B b i (tw_en as ++ List.replicate n none) = lv_args i (as.map (tw_cv B b)) := by
  intro as
  induction as with
  | nil => intro i; simpa [tw_en, lv_args] using tw_as_none B b n i
  | cons v t ih =>
    intro i
    simp only [tw_en, List.map_cons, lv_args, tw_cat]
    by_cases hc : v.category = 2
    · rw [if_pos hc, if_pos hc]
      simp only [List.cons_append, tw_as]
      rw [ih]
    · rw [if_neg hc, if_neg hc]
      simp only [List.cons_append, tw_as]
      rw [ih]
theorem tw_en_len (B b : Nat) : ∀ (as : List Value), (tw_en as).length = (lg_sl (as.map (tw_cv B b))).length := by
  intro as
  induction as with
  | nil => rfl
  | cons v t ih =>
    simp only [tw_en, List.map_cons, lg_sl, List.flatMap_cons, tw_cat] at ih ⊢
    by_cases hc : v.category = 2
    · rw [if_pos hc, if_pos hc]
      simp [ih]
    · rw [if_neg hc, if_neg hc]
      simp [ih]
theorem tw_en_lg : ∀ (as : List Value) (i j : Nat) (v : Value), (tw_en as)[j]? = some (some v) → v.category = 2 → i + j ∈ tw_lg i as := by
  intro as
  induction as with
  | nil => intro i j v h; simp [tw_en] at h
  | cons w t ih =>
    intro i j v h hv
    simp only [tw_en, tw_lg] at h ⊢
    by_cases hc : w.category = 2
    · rw [if_pos hc] at h ⊢
      cases j with
      | zero => simp
      | succ j =>
        cases j with
        | zero => simp at h
        | succ j =>
          have := ih (i + 2) j v (by simpa using h) hv
          refine List.mem_cons_of_mem _ ?_
          rw [show i + (j + 1 + 1) = i + 2 + j by omega]
          exact this
    · rw [if_neg hc] at h ⊢
      cases j with
      | zero =>
        simp at h
        subst h
        exact absurd hv hc
      | succ j =>
        have := ih (i + 1) j v (by simpa using h) hv
        rw [show i + (j + 1) = i + 1 + j by omega]
        exact this
theorem tw_LS_entry {B b k : Nat} {as : List Value} (hlg : tw_lg 0 as = tw_lp k) (hlen : (tw_en as).length ≤ tw_ml k) : tw_LS B b ((lg_sl (as.map (tw_cv B b)) ++ List.replicate (tw_ml k - (lg_sl (as.map (tw_cv B b))).length) Slot.unset).toArray) k (tw_n0 k as) := by
  refine ⟨?_, ?_, ?_⟩
  · unfold tw_n0
    rw [tw_as_en]
    exact lv_entry _ (by rw [← tw_en_len]; exact hlen)
  · unfold tw_n0
    simp
    omega
  · intro i v h hv
    unfold tw_n0 at h
    by_cases hi : i < (tw_en as).length
    · rw [List.getElem?_append_left hi] at h
      rw [← hlg]
      simpa using tw_en_lg as 0 i v h hv
    · rw [List.getElem?_append_right (by omega)] at h
      rw [List.getElem?_replicate] at h
      split at h <;> cases h
