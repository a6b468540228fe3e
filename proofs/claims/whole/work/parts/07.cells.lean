/-! reading and writing cells: the small machine's, as the machine does it -/
theorem tw_find {α : Type} {l : List (Nat × Nat × α)} {o i : Nat} {q : Nat × Nat × α} (h : l.find? (fun q => q.1 == o && q.2.1 == i) = some q) : q ∈ l ∧ q.1 = o ∧ q.2.1 = i := by
  have h1 := List.find?_some h
  simp only [Bool.and_eq_true, beq_iff_eq] at h1
  exact ⟨List.mem_of_find?_eq_some h, h1⟩
theorem tw_rd_kd {D : va_G} {B : Nat} {U : State} {H : Heap} {g : tw_G} {mi : tw_I} {mr : tw_Q} (hH : tw_H D B U H g mi mr) {a : Nat} (ha : tw_kd g a ≠ 99) : a < g.1 ∧ tw_cell D B U H g mi mr a := by
  have h1 : a < g.1 := by
    rcases Nat.lt_or_ge a g.1 with h | h
    · exact h
    · exact absurd (hH.2.1 a h) ha
  exact ⟨h1, hH.2.2 a h1⟩
theorem tw_obj {D : va_G} {B : Nat} {U : State} {H : Heap} {g : tw_G} {mi : tw_I} {mr : tw_Q} (hH : tw_H D B U H g mi mr) {a c : Nat} (hc : c < 11) (ha : tw_kd g a = c) : a < g.1 ∧ t_OB (B + a) (D.1 c) (tw_N c) (D.2 c) H (tw_fv B mi mr c a) := by
  obtain ⟨h1, h2⟩ := tw_rd_kd hH (a := a) (by omega)
  refine ⟨h1, ?_⟩
  rcases h2 with ⟨-, h⟩ | ⟨h, -⟩ | ⟨h, -⟩ | ⟨h, -⟩
  · rw [ha] at h; exact h
  · omega
  · omega
  · omega
theorem tw_arr {D : va_G} {B : Nat} {U : State} {H : Heap} {g : tw_G} {mi : tw_I} {mr : tw_Q} (hH : tw_H D B U H g mi mr) {a : Nat} (ha : tw_kd g a = 20) : a < g.1 ∧ ∃ cA, H[B + a]? = some (arrV cA (tw_ln g a) (fun j => .int (mi a j))) ∧ ArrOfT U cA .int := by
  obtain ⟨h1, h2⟩ := tw_rd_kd hH (a := a) (by omega)
  refine ⟨h1, ?_⟩
  rcases h2 with ⟨h, -⟩ | ⟨-, h⟩ | ⟨h, -⟩ | ⟨h, -⟩
  · omega
  · exact h
  · omega
  · omega
theorem tw_arz {D : va_G} {B : Nat} {U : State} {H : Heap} {g : tw_G} {mi : tw_I} {mr : tw_Q} (hH : tw_H D B U H g mi mr) {a : Nat} (ha : tw_kd g a = 21) : a < g.1 ∧ ∃ cA, H[B + a]? = some (arrV cA (tw_ln g a) (fun j => .int (mi a j))) ∧ ArrOfT U cA .boolean := by
  obtain ⟨h1, h2⟩ := tw_rd_kd hH (a := a) (by omega)
  refine ⟨h1, ?_⟩
  rcases h2 with ⟨h, -⟩ | ⟨h, -⟩ | ⟨-, h⟩ | ⟨h, -⟩
  · omega
  · omega
  · exact h
  · omega
theorem tw_arq {D : va_G} {B : Nat} {U : State} {H : Heap} {g : tw_G} {mi : tw_I} {mr : tw_Q} (hH : tw_H D B U H g mi mr) {a : Nat} (ha : tw_kd g a = 22) : a < g.1 ∧ ∃ cA, H[B + a]? = some (arrV cA (tw_ln g a) (fun j => va_rf ((mr a j).map (B + ·)))) ∧ ArrOfT U cA (.object tw_R2) ∧ va_RA U cA (.object tw_R2) := by
  obtain ⟨h1, h2⟩ := tw_rd_kd hH (a := a) (by omega)
  refine ⟨h1, ?_⟩
  rcases h2 with ⟨h, -⟩ | ⟨h, -⟩ | ⟨h, -⟩ | ⟨-, h⟩
  · omega
  · omega
  · omega
  · exact h
/-- one cell is changed, its kind stays -/
theorem tw_H_put {D : va_G} {B : Nat} {U : State} {H H1 : Heap} {g : tw_G} {mi mi1 : tw_I} {mr mr1 : tw_Q} (hH : tw_H D B U H g mi mr) {a : Nat} (hz : H1.size = H.size) (ho : ∀ q, q ≠ B + a → H1[q]? = H[q]?) (hi : ∀ x, x ≠ a → mi1 x = mi x) (hr : ∀ x, x ≠ a → mr1 x = mr x) (hc : tw_cell D B U H1 g mi1 mr1 a) : tw_H D B U H1 g mi1 mr1 := by
  refine ⟨by rw [hz]; exact hH.1, hH.2.1, fun x hx => ?_⟩
  by_cases hxa : x = a
  · subst hxa; exact hc
  · exact tw_cell_kept (hH.2.2 x hx) (ho _ (by omega)) rfl (hi x hxa) (hr x hxa)
theorem tw_Fr_put {B : Nat} {H0 H H1 : Heap} {locs : List Loc} {a j : Nat} (h : tw_Fr B H0 H locs) (ho : ∀ q, q ≠ B + a → H1[q]? = H[q]?) : tw_Fr B H0 H1 (locs ++ [⟨B + a, j⟩]) := by
  refine ⟨fun q hq => by rw [ho q (by omega)]; exact h.1 q hq, fun z hz => ?_⟩
  rcases List.mem_append.mp hz with h1 | h1
  · exact h.2 z h1
  · rw [List.mem_singleton.mp h1]; exact Nat.le_add_right _ _
/-- a cell is made -/
theorem tw_H_new {D : va_G} {B : Nat} {U : State} {H H1 : Heap} {g : tw_G} {mi : tw_I} {mr : tw_Q} (hH : tw_H D B U H g mi mr) {kd n s : Nat} {fi : Nat → Int32} {fr : Nat → Option Nat} (hz : H1.size = H.size + 1) (ho : ∀ q, q < H.size → H1[q]? = H[q]?) (hc : tw_cell D B U H1 (tw_gn g kd n s) (tw_st mi g.1 fi) (tw_st mr g.1 fr) g.1) : tw_H D B U H1 (tw_gn g kd n s) (tw_st mi g.1 fi) (tw_st mr g.1 fr) := by
  have hs : ∀ {α : Type} (f : Nat → α) (v : α) (x : Nat), x ≠ g.1 → tw_st f g.1 v x = f x := fun f v x h => by simp [tw_st, h]
  refine ⟨by rw [hz, hH.1]; show B + g.1 + 1 = B + (g.1 + 1); omega, fun a ha => ?_, fun x hx => ?_⟩
  · have h1 : g.1 + 1 ≤ a := ha
    have h2 := hH.2.1 a (by omega)
    unfold tw_kd at h2 ⊢
    show (tw_st g.2.2 g.1 (kd, n) a).1 = 99
    rw [hs _ _ _ (by omega)]
    exact h2
  · have h1 : x < g.1 + 1 := hx
    by_cases hxa : x = g.1
    · subst hxa; exact hc
    · exact tw_cell_kept (hH.2.2 x (by omega)) (ho _ (by rw [hH.1]; omega)) (hs _ _ _ hxa) (hs _ _ _ hxa) (hs _ _ _ hxa)
theorem tw_Fr_new {B : Nat} {H0 H H1 : Heap} {locs : List Loc} (h : tw_Fr B H0 H locs) (hz : B ≤ H.size) (ho : ∀ q, q < H.size → H1[q]? = H[q]?) : tw_Fr B H0 H1 locs := ⟨fun q hq => by rw [ho q (by omega)]; exact h.1 q hq, h.2⟩
theorem tw_gn_kd (g : tw_G) (kd n s : Nat) : tw_kd (tw_gn g kd n s) g.1 = kd ∧ tw_ln (tw_gn g kd n s) g.1 = n := by simp [tw_kd, tw_ln, tw_gn, tw_st]
theorem tw_st_s {α : Type} (f : Nat → α) (a : Nat) (v : α) : tw_st f a v a = v := by simp [tw_st]
theorem tw_st_n {α : Type} (f : Nat → α) {a b : Nat} (v : α) (h : b ≠ a) : tw_st f a v b = f b := by simp [tw_st, h]
theorem tw_updV {α : Type} (f : Nat → α) (h : α → Value) (j : Nat) (v : α) : updV (fun i => h (f i)) j (h v) = fun i => h (tw_st f j v i) := by
  funext i
  by_cases hi : i = j
  · subst hi; simp [updV, tw_st]
  · simp [updV, tw_st, hi]
section tw_cells
variable {p : Program} {l : Launch} {e : Env} {R : Room} {s : State} {m : MethodId} {args : Array Value} {below : List Frame} {meth : Method} {c : Code} {H : Heap} {locs : List Loc} {cells slots : Nat} {Q : State → Prop}
variable {D : va_G} {B b k pc : Nat} {cs : Array Slot} {rest : List Value} {g : tw_G} {mi : tw_I} {mr : tw_Q} {H0 : Heap}
theorem tw_Kn (hK : va_K D tw_cl [] s) {c : Nat} (h : c < 11) : u_Kn s (tw_R c) (tw_F c) (tw_N c) (D.1 c) (D.2 c) := hK.1 c _ (tw_cl_at h)
theorem tw_w_get (hC : tw_Bd p s m args meth c D k) (hH : tw_H D B s H g mi mr) {i a : Nat} {q : Nat × Nat × Nat × Nat × Bool × Nat} (hf : tw_fld (tw_ow k) i = some q) (ha : tw_kd g a = q.2.2.1) (hdg : decode (tw_cd k) pc = .ok (.getfield i, 3))
    (kk : W p l e R s m args below meth c H locs cells slots Q (F0 m (pc + 3) cs (tw_fv B mi mr q.2.2.1 a q.2.2.2.1 :: rest))) : W p l e R s m args below meth c H locs cells slots Q (F0 m pc cs (.ref (B + a) :: rest)) := by
  obtain ⟨hx, hb, -, hown, hts, hNX, hK, -⟩ := hC
  obtain ⟨hq, e1, e2⟩ := tw_find hf
  obtain ⟨hw, hc11, hkN⟩ := tw_fls_ok q hq
  rw [e1, e2] at hw
  obtain ⟨-, cell, q1, q2, q3, q4⟩ := tw_obj hH hc11 ha
  obtain ⟨hS, hfc, kC, hkC, hkind⟩ := tw_Kn hK hc11
  obtain ⟨cf, kf, fi, f, hi, hsl⟩ := hS _ hkN
  have hst := (u_facts hfc hkC (u_lays hts (tw_lays _ hc11) hkN) hi).1
  by_cases hn : q.2.2.2.2.1 = true
  · have hl := hNX.1 q hq hn
    rw [e1, e2] at hl
    refine va_Wgetf hx hb hown (va_Nw.use rfl hl) hi hst q1 (by rw [q3]; exact fun h => by cases h) ?_ rfl rfl hdg kk
    rw [hsl, q4 _ hkN]
  · rw [if_neg hn] at hw
    refine W.getf hx hb hown (hts _ (tw_at hw rfl)) hi hst q1 (by rw [q3]; exact fun h => by cases h) ?_ rfl rfl hdg kk
    rw [hsl, q4 _ hkN]
theorem tw_apart {D : va_G} (hts : ∀ w ∈ tw_tb, w.before args s = true) (hK : va_K D tw_cl [] s) {c : Nat} (h : c < 11) : ∀ x y, x < tw_N c → y < tw_N c → x ≠ y → (D.2 c) x ≠ (D.2 c) y :=
  va_apart (own := tw_R c) hts (tw_lays c h) (tw_ty c) (tw_ty_ok c h) (tw_nm_ok c h) hK (tw_cl_at h)
theorem tw_w_put (hC : tw_Bd p s m args meth c D k) (hH : tw_H D B s H g mi mr) (hF : tw_Fr B H0 H locs) {i a : Nat} {q : Nat × Nat × Nat × Nat × Bool × Nat} {mi1 : tw_I} {mr1 : tw_Q} {v : Value} (hf : tw_fld (tw_ow k) i = some q) (hn : q.2.2.2.2.1 = false) (hfin : (tw_fd q.2.2.1 q.2.2.2.1).2.2.1 = false ∨ ((tw_y k).name = "<init>" ∧ q.2.2.1 = tw_ow k)) (ha : tw_kd g a = q.2.2.1)
    (hna : narrow (tw_ty q.2.2.1 q.2.2.2.1) v = v) (hfit : fits (tw_ty q.2.2.1 q.2.2.2.1) v = true) (hi1 : ∀ x, x ≠ a → mi1 x = mi x) (hr1 : ∀ x, x ≠ a → mr1 x = mr x) (hfv : ∀ j, j < tw_N q.2.2.1 → updV (tw_fv B mi mr q.2.2.1 a) q.2.2.2.1 v j = tw_fv B mi1 mr1 q.2.2.1 a j) (hdg : decode (tw_cd k) pc = .ok (.putfield i, 3))
    (kk : ∀ (H1 : Heap) (locs1 : List Loc), tw_H D B s H1 g mi1 mr1 → tw_Fr B H0 H1 locs1 → W p l e R s m args below meth c H1 locs1 cells slots Q (F0 m (pc + 3) cs rest)) : W p l e R s m args below meth c H locs cells slots Q (F0 m pc cs (v :: .ref (B + a) :: rest)) := by
  obtain ⟨hx, hb, -, hown, hts, -, hK, hin⟩ := hC
  obtain ⟨hq, e1, e2⟩ := tw_find hf
  obtain ⟨hw, hc11, hkN⟩ := tw_fls_ok q hq
  rw [e1, e2, hn, if_neg (by decide)] at hw
  have hlink := hts _ (tw_at hw rfl)
  have hap := tw_apart hts hK hc11
  obtain ⟨-, cell, q1, q2, q3, q4⟩ := tw_obj hH hc11 ha
  obtain ⟨hS, hfc, kC, hkC, hkind⟩ := tw_Kn hK hc11
  obtain ⟨cf, kf, fi, f, hi, hsl⟩ := hS _ hkN
  have hst := (u_facts hfc hkC (u_lays hts (tw_lays _ hc11) hkN) hi).1
  have hlay := hts _ (tw_lays _ hc11 _ (u_in_lay hkN))
  have hd := tw_ty_ok _ hc11 _ hkN
  have fin : ∀ H', H'[B + a]? = some (cell.setSlot f.slot v) → H'.size = H.size → (∀ q, q ≠ B + a → H'[q]? = H[q]?) → W p l e R s m args below meth c H' (locs ++ [⟨B + a, f.slot⟩]) cells slots Q (F0 m (pc + 3) cs rest) := by
    intro H' z1 z2 z3
    rw [hsl] at z1 ⊢
    refine kk H' _ (tw_H_put hH z2 z3 hi1 hr1 (Or.inl ⟨by omega, ?_⟩)) (tw_Fr_put hF z3)
    rw [ha]
    exact t_OB.to (V := updV (tw_fv B mi mr q.2.2.1 a) q.2.2.2.1 v) ⟨_, z1, q2, q3, t_set q4 hap hkN v⟩ hfv
  unfold u_lay at hlay
  by_cases hfi : (tw_fd q.2.2.1 q.2.2.2.1).2.2.1 = false
  · have h0 : ((tw_F q.2.2.1) q.2.2.2.1).2.2.2 = false := hfi
    rw [if_neg (by rw [h0]; decide)] at hlay
    have h6 := u_store hfc hkC hkind hlay hi hd hna hfit
    exact W.putK hx hb (f := f) ⟨hown, hlink, ⟨_, _, _, hi⟩, hst⟩ (by rw [q2]; exact h6) q1 q3 (by rw [hsl]; exact k2_hasslot (q4 _ hkN)) rfl rfl hdg fin
  · have h0 : ((tw_F q.2.2.1) q.2.2.2.1).2.2.2 = true := by
      show (tw_fd q.2.2.1 q.2.2.2.1).2.2.1 = true
      simpa using hfi
    rw [if_pos h0] at hlay
    obtain ⟨hi0, hco⟩ := hfin.resolve_left hfi
    have hcf : m.cls = cf := by
      obtain ⟨_, _, c', _, _, _, -, -, hf', -, -, -, hown2, -⟩ := Cond.laysFinal_spec hlay
      have z1 : c' = cf := by have := hi.symm.trans hf'; simp at this; exact this.1.symm
      have hown3 : s.vm.findClass (tw_R q.2.2.1) = some c' := hown2
      rw [hco] at hown3
      rw [← z1]; exact Option.some.inj (hown.symm.trans hown3)
    have h6 := u_fits hfc hkC hkind (Or.inr hlay) hi hd hna hfit
    exact W.putFinK hx hb hown hlink hi hst hcf (hin hi0) (by rw [q2]; exact h6) q1 q3 (by rw [hsl]; exact k2_hasslot (q4 _ hkN)) rfl rfl hdg fin
theorem tw_w_iald (hC : tw_Bd p s m args meth c D k) (hH : tw_H D B s H g mi mr) {a : Nat} {j : Int32} (ha : tw_kd g a = 20) (hin : ¬ (j < 0 ∨ tw_ln g a ≤ j.toNatClampNeg)) (hdg : decode (tw_cd k) pc = .ok (.iaload, 1))
    (kk : W p l e R s m args below meth c H locs cells slots Q (F0 m (pc + 1) cs (.int (mi a j.toNatClampNeg) :: rest))) : W p l e R s m args below meth c H locs cells slots Q (F0 m pc cs (.int j :: .ref (B + a) :: rest)) := by
  obtain ⟨hx, hb, -⟩ := hC
  obtain ⟨-, cA, h1, h2⟩ := tw_arr hH ha
  have hlt : j.toNatClampNeg < tw_ln g a := Nat.not_le.mp fun q => hin (Or.inr q)
  exact W.iald (v := .int (mi a j.toNatClampNeg)) hx hb h1 (h2 _ _) (fun q => by cases q) (by rw [arrV_size]; exact hin) (by rw [arrV_read _ _ hlt]) rfl rfl hdg kk
theorem tw_w_zald (hC : tw_Bd p s m args meth c D k) (hH : tw_H D B s H g mi mr) {a : Nat} {j : Int32} (ha : tw_kd g a = 21) (hin : ¬ (j < 0 ∨ tw_ln g a ≤ j.toNatClampNeg)) (hdg : decode (tw_cd k) pc = .ok (.baload, 1))
    (kk : W p l e R s m args below meth c H locs cells slots Q (F0 m (pc + 1) cs (.int (mi a j.toNatClampNeg) :: rest))) : W p l e R s m args below meth c H locs cells slots Q (F0 m pc cs (.int j :: .ref (B + a) :: rest)) := by
  obtain ⟨hx, hb, -⟩ := hC
  obtain ⟨-, cA, h1, h2⟩ := tw_arz hH ha
  have hlt : j.toNatClampNeg < tw_ln g a := Nat.not_le.mp fun q => hin (Or.inr q)
  exact W.zald (v := .int (mi a j.toNatClampNeg)) hx hb h1 (h2 _ _) (fun q => by cases q) (by rw [arrV_size]; exact hin) (by rw [arrV_read _ _ hlt]) rfl rfl hdg kk
theorem tw_w_aald (hC : tw_Bd p s m args meth c D k) (hH : tw_H D B s H g mi mr) {a : Nat} {j : Int32} (ha : tw_kd g a = 22) (hin : ¬ (j < 0 ∨ tw_ln g a ≤ j.toNatClampNeg)) (hdg : decode (tw_cd k) pc = .ok (.aaload, 1))
    (kk : W p l e R s m args below meth c H locs cells slots Q (F0 m (pc + 1) cs (va_rf ((mr a j.toNatClampNeg).map (B + ·)) :: rest))) : W p l e R s m args below meth c H locs cells slots Q (F0 m pc cs (.int j :: .ref (B + a) :: rest)) := by
  obtain ⟨hx, hb, -⟩ := hC
  obtain ⟨-, cA, h1, h2, -⟩ := tw_arq hH ha
  have hlt : j.toNatClampNeg < tw_ln g a := Nat.not_le.mp fun q => hin (Or.inr q)
  exact W.aald (v := va_rf ((mr a j.toNatClampNeg).map (B + ·))) (ty := .object tw_R2) hx hb h1 (h2 _ _) rfl (fun q => by cases q) (by rw [arrV_size]; exact hin) (by rw [arrV_read _ _ hlt]) rfl rfl hdg kk
theorem tw_w_iast (hC : tw_Bd p s m args meth c D k) (hH : tw_H D B s H g mi mr) (hF : tw_Fr B H0 H locs) {a : Nat} {j x : Int32} (ha : tw_kd g a = 20) (hin : ¬ (j < 0 ∨ tw_ln g a ≤ j.toNatClampNeg)) (hdg : decode (tw_cd k) pc = .ok (.iastore, 1))
    (kk : ∀ (H1 : Heap) (locs1 : List Loc), tw_H D B s H1 g (tw_st mi a (tw_st (mi a) j.toNatClampNeg x)) mr → tw_Fr B H0 H1 locs1 → W p l e R s m args below meth c H1 locs1 cells slots Q (F0 m (pc + 1) cs rest)) : W p l e R s m args below meth c H locs cells slots Q (F0 m pc cs (.int x :: .int j :: .ref (B + a) :: rest)) := by
  obtain ⟨hx, hb, -⟩ := hC
  obtain ⟨-, cA, h1, h2⟩ := tw_arr hH ha
  refine W.iast hx hb h1 (h2 _ _) (fun q => by cases q) (by rw [arrV_size]; exact hin) rfl rfl hdg fun H1 z1 z2 z3 => ?_
  refine kk H1 _ (tw_H_put hH z2 z3 (fun y hy => tw_st_n _ _ hy) (fun y hy => rfl) (Or.inr (Or.inl ⟨ha, cA, ?_, h2⟩))) (tw_Fr_put hF z3)
  rw [z1, arrV_store, tw_st_s]
  exact congrArg (fun f => some (arrV cA (tw_ln g a) f)) (tw_updV (mi a) Value.int _ x)
theorem tw_w_zast (hC : tw_Bd p s m args meth c D k) (hH : tw_H D B s H g mi mr) (hF : tw_Fr B H0 H locs) {a : Nat} {j x : Int32} (hx01 : x = 0 ∨ x = 1) (ha : tw_kd g a = 21) (hin : ¬ (j < 0 ∨ tw_ln g a ≤ j.toNatClampNeg)) (hdg : decode (tw_cd k) pc = .ok (.bastore, 1))
    (kk : ∀ (H1 : Heap) (locs1 : List Loc), tw_H D B s H1 g (tw_st mi a (tw_st (mi a) j.toNatClampNeg x)) mr → tw_Fr B H0 H1 locs1 → W p l e R s m args below meth c H1 locs1 cells slots Q (F0 m (pc + 1) cs rest)) : W p l e R s m args below meth c H locs cells slots Q (F0 m pc cs (.int x :: .int j :: .ref (B + a) :: rest)) := by
  obtain ⟨hx, hb, -⟩ := hC
  obtain ⟨-, cA, h1, h2⟩ := tw_arz hH ha
  refine W.zast hx hb h1 (h2 _ _) (fun q => by cases q) (by rw [arrV_size]; exact hin) rfl rfl hdg fun H1 z1 z2 z3 => ?_
  refine kk H1 _ (tw_H_put hH z2 z3 (fun y hy => tw_st_n _ _ hy) (fun y hy => rfl) (Or.inr (Or.inr (Or.inl ⟨ha, cA, ?_, h2⟩)))) (tw_Fr_put hF z3)
  have hnar : narrow .boolean (.int x) = .int x := by rcases hx01 with rfl | rfl <;> rfl
  rw [z1, hnar, arrV_store, tw_st_s]
  exact congrArg (fun f => some (arrV cA (tw_ln g a) f)) (tw_updV (mi a) Value.int _ x)
theorem tw_w_aast (hC : tw_Bd p s m args meth c D k) (hH : tw_H D B s H g mi mr) (hF : tw_Fr B H0 H locs) {a v : Nat} {j : Int32} (ha : tw_kd g a = 22) (hv : tw_kd g v = 2) (hin : ¬ (j < 0 ∨ tw_ln g a ≤ j.toNatClampNeg)) (hdg : decode (tw_cd k) pc = .ok (.aastore, 1))
    (kk : ∀ (H1 : Heap) (locs1 : List Loc), tw_H D B s H1 g mi (tw_st mr a (tw_st (mr a) j.toNatClampNeg (some v))) → tw_Fr B H0 H1 locs1 → W p l e R s m args below meth c H1 locs1 cells slots Q (F0 m (pc + 1) cs rest)) : W p l e R s m args below meth c H locs cells slots Q (F0 m pc cs (.ref (B + v) :: .int j :: .ref (B + a) :: rest)) := by
  obtain ⟨hx, hb, -, -, -, -, hK, -⟩ := hC
  obtain ⟨-, cA, h1, h2, h3⟩ := tw_arq hH ha
  have hlt : j.toNatClampNeg < tw_ln g a := Nat.not_le.mp fun q => hin (Or.inr q)
  have h0 : ¬ j < 0 := fun q => hin (Or.inl q)
  obtain ⟨-, cellV, g1, g2, g3, -⟩ := tw_obj hH (c := 2) (by omega) hv
  have hcls := (tw_Kn hK (c := 2) (by omega)).2
  obtain ⟨kA, comp, k1, k2, k3, k4⟩ := h3
  have hcomp : comp = D.1 2 := Option.some.inj (k3.symm.trans hcls.1)
  subst hcomp
  have hcls2 := hcls.2
  obtain ⟨kC, hkC, -⟩ := hcls2
  refine W.aast hx hb h1 (fun q h => by cases h) (fun h => by cases h) k1 k2 rfl hkC ⟨h0, by rw [arrV_size]; exact hlt⟩ g1 (fun q h => by rw [g3] at h; cases h) (by rw [g2]; exact hkC) (by rw [g2]; exact va_assign hcls) rfl rfl hdg fun H1 z1 z2 z3 => ?_
  refine kk H1 _ (tw_H_put hH z2 z3 (fun y hy => rfl) (fun y hy => tw_st_n _ _ hy) (Or.inr (Or.inr (Or.inr ⟨ha, cA, ?_, h2, kA, D.1 2, k1, k2, k3, ?_⟩)))) (tw_Fr_put hF z3)
  · rw [z1, arrV_store, tw_st_s]
    exact congrArg (fun f => some (arrV cA (tw_ln g a) f)) (tw_updV (mr a) (fun o => va_rf (o.map (B + ·))) _ (some v))
  · exact k4
end tw_cells
