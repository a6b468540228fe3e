/-! cells that are made, constants, the JDK's own two; then the small machine's rows read and written as a whole -/
section tw_news
variable {p : Program} {l : Launch} {e : Env} {R : Room} {s : State} {m : MethodId} {args : Array Value} {below : List Frame} {meth : Method} {c : Code} {H : Heap} {locs : List Loc} {cells slots : Nat} {Q : State → Prop}
variable {D : va_G} {B b k pc : Nat} {cs : Array Slot} {rest : List Value} {g : tw_G} {mi : tw_I} {mr : tw_Q} {H0 : Heap} {sc : Nat × (Nat → Int32)}
theorem tw_w_new (hC : tw_Bd p s m args meth c D k) (hH : tw_H D B s H g mi mr) (hF : tw_Fr B H0 H locs) {i : Nat} {q : Nat × Nat × Nat × Nat × Nat × Nat} (hf : tw_new (tw_ow k) i = some q) (hcells : cells + 1 ≤ R.cells) (hslots : slots + tw_N q.2.2.1 ≤ R.slots) (hdg : decode (tw_cd k) pc = .ok (.new i, 3))
    (kk : ∀ (H1 : Heap), tw_H D B s H1 (tw_gn g q.2.2.1 0 (tw_N q.2.2.1)) (tw_st mi g.1 (fun _ => 0)) (tw_st mr g.1 (fun _ => none)) → tw_Fr B H0 H1 locs → W p l e R s m args below meth c H1 locs (cells + 1) (slots + tw_N q.2.2.1) Q (F0 m (pc + 3) cs (.ref (B + g.1) :: rest))) : W p l e R s m args below meth c H locs cells slots Q (F0 m pc cs rest) := by
  obtain ⟨hx, hb, -, hown, hts, -, hK, -⟩ := hC
  obtain ⟨hq, e1, e2⟩ := tw_find hf
  obtain ⟨hc11, w1, w2, w3⟩ := tw_nws_ok q hq
  rw [e1, e2] at w1
  have hKn := tw_Kn hK hc11
  refine W.newcK hx hb hown (hts _ (tw_at w1 rfl)) (hts _ (tw_at w2 rfl)) (hts _ (tw_at w3 rfl)) rfl hdg hcells hslots hKn.2.1 hH.1 fun H1 kC hkC z1 z2 z3 => ?_
  have z3' : ∀ y, y < H.size → H1[y]? = H[y]? := fun y hy => z3 y (by rw [← hH.1]; exact hy)
  refine kk H1 (tw_H_new hH (by rw [z2, hH.1]) z3' (Or.inl ?_)) (tw_Fr_new hF (by rw [hH.1]; omega) z3')
  rw [(tw_gn_kd _ _ _ _).1]
  refine ⟨hc11, (u_born (tw_ty q.2.2.1) hts (tw_lays _ hc11) hKn hkC z1 (tw_ty_ok _ hc11)).to fun j hj => ?_⟩
  have hd : ∀ c, c < 11 → ∀ j, j < tw_N c → defaultValue (tw_ty c j) = (if tw_rf c j = true then Value.null else .int 0) := by decide +kernel
  rw [hd _ hc11 j hj]
  simp only [tw_fv, tw_st_s]
  rfl
theorem tw_w_newi (hC : tw_Bd p s m args meth c D k) (hH : tw_H D B s H g mi mr) (hF : tw_Fr B H0 H locs) {n : Int32} (hn : ¬ n < 0) (hn2 : n.toNatClampNeg ≤ 100000) (hcells : cells + 1 ≤ R.cells) (hslots : slots + n.toNatClampNeg ≤ R.slots) (hdg : decode (tw_cd k) pc = .ok (.newarray .int, 2))
    (kk : ∀ (H1 : Heap), tw_H D B s H1 (tw_gn g 20 n.toNatClampNeg n.toNatClampNeg) (tw_st mi g.1 (fun _ => 0)) (tw_st mr g.1 (fun _ => none)) → tw_Fr B H0 H1 locs → W p l e R s m args below meth c H1 locs (cells + 1) (slots + n.toNatClampNeg) Q (F0 m (pc + 2) cs (.ref (B + g.1) :: rest))) : W p l e R s m args below meth c H locs cells slots Q (F0 m pc cs (.int n :: rest)) := by
  obtain ⟨hx, hb, -, hown, hts, -, hK, -⟩ := hC
  refine va_newaK (atype := .int) hx hb (hts _ (tw_in tw_ia rfl)) rfl hdg rfl hn rfl (by show n.toNatClampNeg * 4 ≤ 536870912; omega) hcells hslots hH.1 fun H1 cA z1 z2 z3 hAr hNm => ?_
  have z3' : ∀ y, y < H.size → H1[y]? = H[y]? := fun y hy => z3 y (by rw [← hH.1]; exact hy)
  refine kk H1 (tw_H_new hH (by rw [z2, hH.1]) z3' (Or.inr (Or.inl ⟨(tw_gn_kd _ _ _ _).1, cA, ?_, hAr⟩))) (tw_Fr_new hF (by rw [hH.1]; omega) z3')
  rw [(tw_gn_kd _ _ _ _).2, tw_st_s]
  exact z1
theorem tw_w_newz (hC : tw_Bd p s m args meth c D k) (hH : tw_H D B s H g mi mr) (hF : tw_Fr B H0 H locs) {n : Int32} (hn : ¬ n < 0) (hn2 : n.toNatClampNeg ≤ 100000) (hcells : cells + 1 ≤ R.cells) (hslots : slots + n.toNatClampNeg ≤ R.slots) (hdg : decode (tw_cd k) pc = .ok (.newarray .boolean, 2))
    (kk : ∀ (H1 : Heap), tw_H D B s H1 (tw_gn g 21 n.toNatClampNeg n.toNatClampNeg) (tw_st mi g.1 (fun _ => 0)) (tw_st mr g.1 (fun _ => none)) → tw_Fr B H0 H1 locs → W p l e R s m args below meth c H1 locs (cells + 1) (slots + n.toNatClampNeg) Q (F0 m (pc + 2) cs (.ref (B + g.1) :: rest))) : W p l e R s m args below meth c H locs cells slots Q (F0 m pc cs (.int n :: rest)) := by
  obtain ⟨hx, hb, -, hown, hts, -, hK, -⟩ := hC
  refine va_newaK (atype := .boolean) hx hb (hts _ (tw_in tw_za rfl)) rfl hdg rfl hn rfl (by show n.toNatClampNeg * 1 ≤ 536870912; omega) hcells hslots hH.1 fun H1 cA z1 z2 z3 hAr hNm => ?_
  have z3' : ∀ y, y < H.size → H1[y]? = H[y]? := fun y hy => z3 y (by rw [← hH.1]; exact hy)
  refine kk H1 (tw_H_new hH (by rw [z2, hH.1]) z3' (Or.inr (Or.inr (Or.inl ⟨(tw_gn_kd _ _ _ _).1, cA, ?_, hAr⟩)))) (tw_Fr_new hF (by rw [hH.1]; omega) z3')
  rw [(tw_gn_kd _ _ _ _).2, tw_st_s]
  exact z1
theorem tw_w_newr (hC : tw_Bd p s m args meth c D k) (ho : tw_ow k = 1) (hH : tw_H D B s H g mi mr) (hF : tw_Fr B H0 H locs) {n : Int32} (hn : ¬ n < 0) (hn2 : n.toNatClampNeg ≤ 100000) (hcells : cells + 1 ≤ R.cells) (hslots : slots + n.toNatClampNeg ≤ R.slots) (hdg : decode (tw_cd k) pc = .ok (.anewarray 9, 3))
    (kk : ∀ (H1 : Heap), tw_H D B s H1 (tw_gn g 22 n.toNatClampNeg n.toNatClampNeg) (tw_st mi g.1 (fun _ => 0)) (tw_st mr g.1 (fun _ => none)) → tw_Fr B H0 H1 locs → W p l e R s m args below meth c H1 locs (cells + 1) (slots + n.toNatClampNeg) Q (F0 m (pc + 3) cs (.ref (B + g.1) :: rest))) : W p l e R s m args below meth c H locs cells slots Q (F0 m pc cs (.int n :: rest)) := by
  obtain ⟨hx, hb, -, hown, hts, hNX, hK, -⟩ := hC
  rw [ho] at hown
  refine W.anew hx hb hown (hts _ (tw_in tw_ac rfl)) (va_AO.use hNX.2.2) rfl hdg rfl hn (by omega) hcells hslots fun cA kA comp f1 f2 f3 f4 => ?_
  generalize hH1 : H.push ({ cls := cA, slots := Array.replicate n.toNatClampNeg .null, vm := .none } : Cell) = H1
  have z2 : H1.size = H.size + 1 := by rw [← hH1, Array.size_push]
  have z1 : H1[H.size]? = some (arrV cA n.toNatClampNeg (fun _ => .null)) := by rw [← hH1, Array.getElem?_push_size, ← arrV_new]
  have z3 : ∀ q : Nat, q < H.size → H1[q]? = H[q]? := fun q hq => by rw [← hH1, Array.getElem?_push, if_neg (Nat.ne_of_lt hq)]
  have hAr : ArrOfT s cA (.object tw_R2) := fun N z => ⟨(fun k h => by cases h), kA, f2, comp, f3⟩
  rw [hH.1]
  refine kk H1 (tw_H_new hH z2 z3 (Or.inr (Or.inr (Or.inr ⟨(tw_gn_kd _ _ _ _).1, cA, ?_, hAr, kA, comp, f2, f3, f4, f1⟩)))) (tw_Fr_new hF (by rw [hH.1]; omega) z3)
  rw [(tw_gn_kd _ _ _ _).2, tw_st_s, ← hH.1]
  exact z1
theorem tw_w_sald (hC : tw_Bd p s m args meth c D k) (hX : va_X b sc.1 sc.2 s H0) (hbB : b < B) (hF : tw_Fr B H0 H locs) {j : Int32} (hin : ¬ (j < 0 ∨ sc.1 ≤ j.toNatClampNeg)) (hdg : decode (tw_cd k) pc = .ok (.iaload, 1))
    (kk : W p l e R s m args below meth c H locs cells slots Q (F0 m (pc + 1) cs (.int (sc.2 j.toNatClampNeg) :: rest))) : W p l e R s m args below meth c H locs cells slots Q (F0 m pc cs (.int j :: .ref b :: rest)) := by
  obtain ⟨hx, hb, -⟩ := hC
  obtain ⟨scr, h1, h2, h3, h4, h5⟩ := hX
  have hlt : j.toNatClampNeg < sc.1 := Nat.not_le.mp fun q => hin (Or.inr q)
  exact W.iald (v := .int (sc.2 j.toNatClampNeg)) hx hb (by rw [hF.1 b hbB]; exact h1) h2 h3 (by rw [h4]; exact hin) (h5 _ hlt) rfl rfl hdg kk
theorem tw_w_slen (hC : tw_Bd p s m args meth c D k) (hX : va_X b sc.1 sc.2 s H0) (hbB : b < B) (hF : tw_Fr B H0 H locs) (hdg : decode (tw_cd k) pc = .ok (.arraylength, 1))
    (kk : W p l e R s m args below meth c H locs cells slots Q (F0 m (pc + 1) cs (.int (Int32.ofNat sc.1) :: rest))) : W p l e R s m args below meth c H locs cells slots Q (F0 m pc cs (.ref b :: rest)) := by
  obtain ⟨hx, hb, -⟩ := hC
  obtain ⟨scr, h1, h2, h3, h4, h5⟩ := hX
  exact W.alen hx hb (by rw [hF.1 b hbB]; exact h1) h2 (by rw [h4]) rfl rfl hdg kk
theorem tw_cats (B b : Nat) (r : List Value) (h : r.length ≤ 4) : ((r.map (tw_cv B b)).map fun v => v.category).sum ≤ 8 := by
  have h2 : ∀ (r : List Value), ((r.map (tw_cv B b)).map fun v => v.category).sum ≤ 2 * r.length := by
    intro r
    induction r with
    | nil => simp
    | cons v t ih =>
      simp only [List.map_cons, List.sum_cons, List.length_cons]
      have hv : (tw_cv B b v).category ≤ 2 := by
        rcases lv_cat (tw_cv B b v) with h | h <;> omega
      omega
  have := h2 r
  omega
set_option maxHeartbeats 4000000 in
theorem tw_w_rd {d : Nat} (hC : tw_Bd p s m args meth c D k) (hH : tw_H D B s H g mi mr) (hX : va_X b sc.1 sc.2 s H0) (hbB : b < B) (hF : tw_Fr B H0 H locs) (hsz : cs.size = tw_ml k) (hdf : d ≤ R.frames) (hdl : 60 * d ≤ R.locals) (hc : cells ≤ R.cells) (hs : slots ≤ R.slots) {ins : Instr} {len : Nat} {st st' : List Value} (hdg : decode (tw_cd k) pc = .ok (ins, len)) (h : tw_rd sc k d ins len st g mi mr = some st')
    (kk : W p l e R s m args below meth c H locs cells slots Q (F0 m (pc + len) cs (st'.map (tw_cv B b)))) : W p l e R s m args below meth c H locs cells slots Q (F0 m pc cs (st.map (tw_cv B b))) := by
  have hC' := hC
  obtain ⟨hx, hb, hml, hown, hts, -⟩ := hC'
  cases ins
  all_goals try (simp only [tw_rd, reduceCtorEq] at h; done)
  all_goals simp only [tw_rd] at h
  all_goals (split at h; rotate_left; · cases h)
  all_goals rename_i hlen
  all_goals subst hlen
  case getfield i =>
    split at h; rotate_left; (· cases h)
    rename_i a r
    split at h; rotate_left; (· cases h)
    rename_i q hf
    split at h; rotate_left; (· cases h)
    rename_i ha
    refine tw_w_get hC hH hf ha hdg ?_
    split at h
    · rename_i hr
      cases h
      rw [List.map_cons, tw_cv_rf] at kk
      simp only [tw_fv, if_pos hr]
      exact kk
    · rename_i hr
      cases h
      simp only [tw_fv, if_neg hr]
      exact kk
  case iaload =>
    split at h
    · split at h; rotate_left; (· cases h)
      rename_i ha
      cases h
      exact tw_w_iald hC hH ha.1 ha.2 hdg kk
    · split at h; rotate_left; (· cases h)
      rename_i ha
      cases h
      exact tw_w_sald hC hX hbB hF ha hdg kk
    · cases h
  case baload =>
    split at h; rotate_left; (· cases h)
    split at h; rotate_left; (· cases h)
    rename_i ha
    cases h
    exact tw_w_zald hC hH ha.1 ha.2 hdg kk
  case aaload =>
    split at h; rotate_left; (· cases h)
    split at h; rotate_left; (· cases h)
    rename_i ha
    cases h
    rw [List.map_cons, tw_cv_rf] at kk
    exact tw_w_aald hC hH ha.1 ha.2 hdg kk
  case arraylength =>
    split at h; rotate_left; (· cases h)
    cases h
    exact tw_w_slen hC hX hbB hF hdg kk
  case ldc i =>
    split at h; rotate_left; (· cases h)
    rename_i q hf
    cases h
    obtain ⟨hq, e1, e2⟩ := tw_find hf
    have hw := tw_lds_ok q hq
    rw [e1, e2] at hw
    exact lv_ldc hx hb hown (hts _ (tw_at hw rfl)) hdg kk
  case ldc2_w i =>
    split at h; rotate_left; (· cases h)
    rename_i q hf
    cases h
    obtain ⟨hq, e1, e2⟩ := tw_find hf
    have hw := tw_ld2_ok q hq
    rw [e1, e2] at hw
    exact lv_ldc2 hx hb hown (hts _ (tw_at hw rfl)) hdg kk
  case invokestatic i =>
    split at h; rotate_left; (· cases h)
    rename_i y x r
    split at h; rotate_left; (· cases h)
    rename_i q hf
    split at h; rotate_left; (· cases h)
    rename_i hd
    obtain ⟨hq, e1, e2⟩ := tw_find hf
    obtain ⟨w1, w2, w3⟩ := tw_mas_ok q hq
    rw [e1, e2] at w1
    have hcat := tw_cats B b r hd.2
    split at h
    · rename_i hm
      cases h
      rw [if_pos hm] at w1 w2
      exact va_mmax hx hb (by rw [hml, hsz]) hown (hts _ (tw_at w1 rfl)) (hts _ (tw_at w2 rfl)) (hts _ (tw_at w3 rfl)) (hts _ (tw_in tw_max_code rfl)) (by omega) (by omega) hc hs hdg kk
    · rename_i hm
      cases h
      rw [if_neg hm] at w1 w2
      exact va_mmin hx hb (by rw [hml, hsz]) hown (hts _ (tw_at w1 rfl)) (hts _ (tw_at w2 rfl)) (hts _ (tw_at w3 rfl)) (hts _ (tw_in tw_min_code rfl)) (by omega) (by omega) hc hs hdg kk
  case invokespecial i =>
    split at h; rotate_left; (· cases h)
    rename_i a r
    split at h; rotate_left; (· cases h)
    rename_i q hf
    split at h; rotate_left; (· cases h)
    rename_i hd
    cases h
    obtain ⟨hq, e1, e2⟩ := tw_find hf
    have w1 := tw_ois_ok q hq
    rw [e1, e2] at w1
    have hcat := tw_cats B b st' hd.2
    exact W.objInit hx hb hown (hts _ (tw_at w1 rfl)) (hts _ (tw_in tw_oi_inst rfl)) (hts _ (tw_in tw_oi_code rfl)) rfl (by show cs.size = _; rw [hml, hsz]) rfl hdg (by omega) (by rw [show JFrame.monitorRoom (F0 m pc cs (List.map (tw_cv B b) (Value.ref a :: st'))) = 0 from rfl]; omega) kk
end tw_news
