/-! calls, and the whole run -/
theorem tw_NX_warm {s U : State} (hW : s.WarmedH U.vm) (h : tw_NX s) : tw_NX U := ⟨fun q hq hn => va_Nw.warmF hW (h.1 q hq hn), fun q hq hn => va_Nw.warmM hW (h.2.1 q hq hn), va_AO.moved hW.alike h.2.2⟩
def tw_Pc (D : va_G) (B b : Nat) (sc : Nat × (Nat → Int32)) (g : tw_G) (mi : tw_I) (mr : tw_Q) (as : List Value) : Array Value → State → Prop := fun a U => a = (as.map (tw_cv B b)).toArray ∧ tw_H D B U U.heap g mi mr ∧ va_K D tw_cl [] U ∧ tw_NX U ∧ va_X b sc.1 sc.2 U U.heap
def tw_Qc (D : va_G) (B b : Nat) (v : Option Value) (g : tw_G) (mi : tw_I) (mr : tw_Q) : Array Value → State → Outcome → State → Prop := fun _ st oc t => oc = .returned (v.map (tw_cv B b)) ∧ tw_H D B t t.heap g mi mr ∧ ∀ q, q < B → t.heap[q]? = st.heap[q]?
theorem tw_Pc_blind {D : va_G} {B b : Nat} {sc : Nat × (Nat → Int32)} {g : tw_G} {mi : tw_I} {mr : tw_Q} {as : List Value} : FrameBlind (tw_Pc D B b sc g mi mr as) := by
  intro a U fr mk ⟨h1, h2, h3, h4, h5⟩
  refine ⟨h1, tw_H_moved (u := U) (U := U.calling fr mk a) (Vm.Alike.refl U.vm) h2, va_K.moved (u := U) (U := U.calling fr mk a) (Vm.Alike.refl U.vm) h3, ⟨fun q hq hn => va_Nw.same (u := U) (U := U.calling fr mk a) rfl rfl (h4.1 q hq hn), fun q hq hn => va_Nw.same (u := U) (U := U.calling fr mk a) rfl rfl (h4.2.1 q hq hn), va_AO.moved (u := U) (U := U.calling fr mk a) (Vm.Alike.refl U.vm) h4.2.2⟩, va_X.moved (u := U) (U := U.calling fr mk a) (Vm.Alike.refl U.vm) h5⟩
theorem tw_Pc_of {D : va_G} {B b : Nat} {sc : Nat × (Nat → Int32)} {g : tw_G} {mi : tw_I} {mr : tw_Q} {as : List Value} {s U : State} {H0 H : Heap} {locs : List Loc} (hbB : b < B) (hK : va_K D tw_cl [] s) (hNX : tw_NX s) (hX : va_X b sc.1 sc.2 s H0) (hH : tw_H D B s H g mi mr) (hF : tw_Fr B H0 H locs) (hU : U.heap = H) (hW : s.WarmedH U.vm) : tw_Pc D B b sc g mi mr as (as.map (tw_cv B b)).toArray U := by
  refine ⟨rfl, tw_H_moved hW.alike (by rw [hU]; exact hH), va_K.moved hW.alike hK, tw_NX_warm hW hNX, va_X.moved hW.alike (hX.kept ?_)⟩
  rw [hU]
  exact hF.1 b hbB
def tw_S (l : Launch) (D : va_G) (B b : Nat) (sc : Nat × (Nat → Int32)) (f : Nat) : Prop := ∀ (d k pc : Nat) (ls : tw_L) (st : List Value) (g : tw_G) (mi : tw_I) (mr : tw_Q) (v : Option Value) (g' : tw_G) (mi' : tw_I) (mr' : tw_Q), tw_run sc f d k pc ls st g mi mr = some (v, g', mi', mr') →
  ∀ (p : Program) (e : Env) (R : Room) (s : State) (m : MethodId) (args : Array Value) (below : List Frame) (meth : Method) (c : Code) (H0 H : Heap) (locs : List Loc) (cells slots : Nat) (cs : Array Slot) (Q : State → Prop),
  tw_Bd p s m args meth c D k → d ≤ R.frames → 60 * d ≤ R.locals → va_X b sc.1 sc.2 s H0 → tw_H D B s H g mi mr → tw_Fr B H0 H locs → tw_LS B b cs k ls → cells + (g'.1 - g.1) ≤ R.cells → slots + (g'.2.1 - g.2.1) ≤ R.slots →
  (∀ (pcr : Nat) (csr : Array Slot) (Hr : Heap) (locsr : List Loc) (ins : Instr) (len : Nat) (str : List Value), decode (tw_cd k) pcr = .ok (ins, len) → tw_re k ins len str = some v → tw_H D B s Hr g' mi' mr' → tw_Fr B H0 Hr locsr → W p l e R s m args below meth c Hr locsr (cells + (g'.1 - g.1)) (slots + (g'.2.1 - g.2.1)) Q (F0 m pcr csr (str.map (tw_cv B b)))) →
  W p l e R s m args below meth c H locs cells slots Q (F0 m pc cs (st.map (tw_cv B b)))
theorem tw_goodk {k : Nat} (hk : k < tw_ny) : GoodIn tw_tb (Cond.code (tw_y k) (tw_cd k) (tw_ml k) (tw_rt k) :: tw_tb) := by
  intro w hw
  rcases List.mem_cons.mp hw with rfl | h
  · exact tw_words _ (tw_code hk)
  · exact tw_words _ h
set_option maxHeartbeats 4000000 in
theorem tw_met {l : Launch} {D : va_G} {B b : Nat} {sc : Nat × (Nat → Int32)} {f : Nat} (hS : tw_S l D B b sc f) {d k : Nat} {as : List Value} {g g' : tw_G} {mi mi' : tw_I} {mr mr' : tw_Q} {v : Option Value} (hk : k < tw_ny) (hlg : tw_lg 0 as = tw_lp k) (hlen : (tw_en as).length ≤ tw_ml k) (hrun : tw_run sc f d k 0 (tw_n0 k as) [] g mi mr = some (v, g', mi', mr')) :
    Met l (tw_y k) (Cond.code (tw_y k) (tw_cd k) (tw_ml k) (tw_rt k) :: tw_tb) { frames := d, cells := g'.1 - g.1, slots := g'.2.1 - g.2.1, locals := 60 * d } (tw_Pc D B b sc g mi mr as) (tw_Qc D B b v g' mi' mr') (g'.1 - g.1) (g'.2.1 - g.2.1) (fun q => B ≤ q) := by
  obtain ⟨hpl, ho11, hcls, -⟩ := tw_plain_ok k hk
  refine Met.ofW (cc := tw_cd k) (maxL := tw_ml k) (ret := tw_rt k) hpl rfl ?_
  intro p e s m args below meth c s₁ Bd hml hv
  obtain ⟨rfl, hH, hK, hNX, hX⟩ := hv
  have hx := Bd.exec
  have hb := Bd.bytes
  have hr := Bd.returns
  have hts0 := atoms_spec (ws := Cond.code (tw_y k) (tw_cd k) (tw_ml k) (tw_rt k) :: tw_tb) Bd.pre
  have hown : s.vm.findClass (tw_y k).cls = some m.cls := findClass_of_methodNamed Bd.named
  have hlocks := Bd.notSynchronized
  rw [hcls] at hown
  have hnm : meth.name = (tw_y k).name := (name_of_methodNamed Bd.named Bd.method).1
  have hC : tw_Bd p s m (as.map (tw_cv B b)).toArray meth c D k := ⟨hx, hb, hml, hown, fun w hw => hts0 w (List.mem_cons_of_mem _ hw), hNX, hK, fun h => hnm.trans h⟩
  rw [lg_entry_eq]
  refine hS d k 0 (tw_n0 k as) [] g mi mr v g' mi' mr' hrun p e _ s m _ below meth c s.heap s.heap [] 0 0 _ _ hC (Nat.le_refl _) (Nat.le_refl _) hX hH ⟨fun q hq => rfl, fun z hz => by cases hz⟩ (tw_LS_entry hlg hlen) (by rw [Nat.zero_add]; exact Nat.le_refl _) (by rw [Nat.zero_add]; exact Nat.le_refl _) ?_
  intro pcr csr Hr locsr ins len str hdg hre hHr hFr
  refine W.cs (Nat.zero_add _) (Nat.zero_add _) ?_
  have hq : ∀ t : State, t.heap = Hr → s.WarmedH t.vm → tw_Qc D B b v g' mi' mr' (as.map (tw_cv B b)).toArray s (.returned (v.map (tw_cv B b))) t := fun t ht hW => ⟨rfl, tw_H_moved hW.alike (by rw [ht]; exact hHr), fun q hq => by rw [ht]; exact hFr.1 q hq⟩
  cases ins
  all_goals try (simp only [tw_re, reduceCtorEq] at hre; done)
  all_goals simp only [tw_re] at hre
  all_goals (split at hre; rotate_left; · cases hre)
  all_goals rename_i hlen1
  all_goals subst hlen1
  case ireturn =>
    split at hre; rotate_left; (· cases hre)
    split at hre
    · rename_i hrt
      cases hre
      exact W.zret hx hb (hr.trans hrt) rfl hq hFr.2 hdg
    · rename_i hrt
      split at hre; rotate_left; (· cases hre)
      rename_i h01
      cases hre
      exact W.zret hx hb (hr.trans hrt) (by rcases h01 with rfl | rfl <;> rfl) hq hFr.2 hdg
    · cases hre
  case areturn =>
    split at hre
    · split at hre; rotate_left; (· cases hre)
      rename_i hrt
      cases hre
      exact W.aret hx hb (hr.trans hrt) (Or.inl ⟨_, rfl⟩) (Or.inr ⟨_, rfl⟩) hq hFr.2 hdg
    · split at hre; rotate_left; (· cases hre)
      rename_i hrt
      cases hre
      exact W.aret hx hb (hr.trans hrt) (Or.inl ⟨_, rfl⟩) (Or.inl rfl) hq hFr.2 hdg
    · cases hre
  case return_ =>
    split at hre; rotate_left; (· cases hre)
    split at hre; rotate_left; (· cases hre)
    rename_i hrt
    cases hre
    exact W.vret hx hb (hr.trans hrt) hq hFr.2 hdg
section tw_callw
variable {p : Program} {l : Launch} {e : Env} {R : Room} {s : State} {m : MethodId} {args : Array Value} {below : List Frame} {meth : Method} {c : Code} {H : Heap} {locs : List Loc} {cells slots : Nat} {Q : State → Prop}
variable {D : va_G} {B b k pc : Nat} {cs : Array Slot} {rest : List Value} {g : tw_G} {mi : tw_I} {mr : tw_Q} {H0 : Heap} {sc : Nat × (Nat → Int32)}
theorem tw_after {mc ms : Nat} {st0 : List Value} {v : Option Value} {g' : tw_G} {mi' : tw_I} {mr' : tw_Q} {a : Array Value} (hF : tw_Fr B H0 H locs) (hr : va_Run p l e R s m args below meth c H locs cells slots mc ms (F0 m pc cs st0) rest (tw_Qc D B b v g' mi' mr' a) (fun q => B ≤ q))
    (kk : ∀ (H1 : Heap) (locs1 : List Loc), tw_H D B s H1 g' mi' mr' → tw_Fr B H0 H1 locs1 → W p l e R s m args below meth c H1 locs1 (cells + mc) (slots + ms) Q (F0 m (pc + 3) cs ((v.map (tw_cv B b)).toList ++ rest))) : W p l e R s m args below meth c H locs cells slots Q (F0 m pc cs st0) := by
  intro T hT X
  obtain ⟨v', st₀, t, T', L, h0, X', hL, e1, e2, ⟨hv, hH', hk⟩, st⟩ := hr T hT X
  have hv' := Outcome.returned.inj hv
  subst hv'
  have hal : s.vm.Alike t.vm := by rw [← e2]; exact X'.warmed.alike
  obtain ⟨t2, a1, b1⟩ := kk T'.heap (locs ++ L) (tw_H_moved hal.symm (by rw [e1]; exact hH')) ⟨fun q hq => by rw [e1, hk q hq, h0]; exact hF.1 q hq, fun z hz => by
    rcases List.mem_append.mp hz with h | h
    · exact hF.2 z h
    · exact hL z h⟩ T' rfl X'
  exact ⟨t2, st t2 a1, b1⟩
set_option maxHeartbeats 4000000 in
theorem tw_w_ca {f d len k2 : Nat} {ins : Instr} {st as r : List Value} {v : Option Value} {g' : tw_G} {mi' : tw_I} {mr' : tw_Q} (hS : tw_S l D B b sc f) (hbB : b < B) (hC : tw_Bd p s m args meth c D k) (hdf : d ≤ R.frames) (hdl : 60 * d ≤ R.locals) (hX : va_X b sc.1 sc.2 s H0) (hH : tw_H D B s H g mi mr) (hF : tw_Fr B H0 H locs) (hsz : cs.size = tw_ml k) (hd1 : 1 ≤ d) (hca : tw_ca k ins len st g = some (k2, as, r)) (hr4 : r.length ≤ 4) (hk2 : k2 < tw_ny) (hlg : tw_lg 0 as = tw_lp k2) (hlen : (tw_en as).length ≤ tw_ml k2)
    (hrun : tw_run sc f (d - 1) k2 0 (tw_n0 k2 as) [] g mi mr = some (v, g', mi', mr')) (hc : cells + (g'.1 - g.1) ≤ R.cells) (hs : slots + (g'.2.1 - g.2.1) ≤ R.slots) (hdg : decode (tw_cd k) pc = .ok (ins, len))
    (kk : ∀ (H1 : Heap) (locs1 : List Loc), tw_H D B s H1 g' mi' mr' → tw_Fr B H0 H1 locs1 → W p l e R s m args below meth c H1 locs1 (cells + (g'.1 - g.1)) (slots + (g'.2.1 - g.2.1)) Q (F0 m (pc + 3) cs ((v.toList ++ r).map (tw_cv B b)))) : W p l e R s m args below meth c H locs cells slots Q (F0 m pc cs (st.map (tw_cv B b))) := by
  have hM := tw_met hS hk2 hlg hlen hrun
  obtain ⟨hx, hb, hml, hown, hts, hNX, hK, -⟩ := hC
  obtain ⟨-, -, -, hml30⟩ := tw_plain_ok k2 hk2
  have hR : (d - 1) + 1 ≤ R.frames ∧ 8 + (tw_ml k2 + 11) + 60 * (d - 1) ≤ R.locals := ⟨by omega, by omega⟩
  have hPc : ∀ U : State, U.heap = H → s.WarmedH U.vm → tw_Pc D B b sc g mi mr as (as.map (tw_cv B b)).toArray U := fun U hU hW => tw_Pc_of hbB hK hNX hX hH hF hU hW
  have hfix : CallFix p m c (tw_cd k) (tw_ml k) s args tw_tb (tw_R (tw_ow k)) := ⟨hx, hb, hml, hown, hts⟩
  have hcat := tw_cats B b r hr4
  have hvr : (v.toList ++ r).map (tw_cv B b) = (v.map (tw_cv B b)).toList ++ r.map (tw_cv B b) := by cases v <;> simp
  have kk' : ∀ (H1 : Heap) (locs1 : List Loc), tw_H D B s H1 g' mi' mr' → tw_Fr B H0 H1 locs1 → W p l e R s m args below meth c H1 locs1 (cells + (g'.1 - g.1)) (slots + (g'.2.1 - g.2.1)) Q (F0 m (pc + 3) cs ((v.map (tw_cv B b)).toList ++ r.map (tw_cv B b))) := fun H1 locs1 z1 z2 => by rw [← hvr]; exact kk H1 locs1 z1 z2
  have hmon : ∀ z, 2 * JFrame.monitorRoom (F0 m pc cs z) + ((r.map (tw_cv B b)).map fun v => v.category).sum ≤ 8 := fun z => by
    rw [show JFrame.monitorRoom (F0 m pc cs z) = 0 from rfl]; omega
  cases ins
  all_goals try (simp only [tw_ca, reduceCtorEq] at hca; done)
  all_goals simp only [tw_ca] at hca
  all_goals (split at hca; rotate_left; · cases hca)
  all_goals rename_i hlen3
  all_goals subst hlen3
  case invokestatic i =>
    split at hca; rotate_left; (· cases hca)
    rename_i q hf
    obtain ⟨hq, e1, e2⟩ := tw_find hf
    obtain ⟨-, h6, w1, w2, w3, w4, w5, w6, w7⟩ := tw_cls_ok q hq
    split at hca; rotate_left; (· cases hca)
    rename_i hcond
    cases hca
    rw [if_pos hcond.1] at w2
    have hstk : st.map (tw_cv B b) = (((st.take q.2.2.2.2.1).reverse).map (tw_cv B b)).reverse ++ (st.drop q.2.2.2.2.1).map (tw_cv B b) := by
      rw [← List.map_reverse, List.reverse_reverse, ← List.map_append, List.take_append_drop]
    have hn : (((st.take q.2.2.2.2.1).reverse).map (tw_cv B b)).length = q.2.2.2.2.1 := by simp; omega
    by_cases h3 : q.2.2.1 < 3
    · rw [if_pos h3, e1, e2] at w1
      exact tw_after hF (va_runS hfix hM ⟨callB_of q.2.2.2.2.1 hts (tw_goodk hk2) rfl rfl rfl (hts _ (tw_at w3 rfl)) (hts _ (tw_at w1 rfl)) ⟨w6.1, w6.2, w5⟩ hR, hts _ (tw_at w2 rfl)⟩ ⟨tw_Pc_blind, hPc⟩ rfl hn hsz hstk (hmon _) hdg ⟨hc, hs⟩) kk'
    · have hl := hNX.2.1 q hq h3
      rw [e1, e2] at hl
      exact tw_after hF (va_runSN hfix hM ⟨va_cnB q.2.2.2.2.1 hts (tw_goodk hk2) rfl rfl rfl hl (hts _ (tw_at w3 rfl)) ⟨w6.1, w6.2, w5⟩ hR, hts _ (tw_at w2 rfl), trivial⟩ ⟨tw_Pc_blind, hPc⟩ rfl hn hsz hstk (hmon _) hdg ⟨hc, hs⟩) kk'
  case invokevirtual i =>
    split at hca; rotate_left; (· cases hca)
    rename_i q hf
    obtain ⟨hq, e1, e2⟩ := tw_find hf
    obtain ⟨-, h6, w1, w2, w3, w4, w5, w6, w7⟩ := tw_cls_ok q hq
    split at hca; rotate_left; (· cases hca)
    rename_i hcond
    split at hca; rotate_left; (· cases hca)
    rename_i b0 r0 hdrop
    split at hca; rotate_left; (· cases hca)
    rename_i hkd
    cases hca
    rw [if_pos (by omega), e1, e2] at w1
    rw [if_neg (by omega)] at w2
    have w4' := w4 (by omega)
    have hstk : st.map (tw_cv B b) = (((st.take q.2.2.2.2.1).reverse).map (tw_cv B b)).reverse ++ .ref (B + b0) :: r.map (tw_cv B b) := by
      rw [← List.map_reverse, List.reverse_reverse, show (Value.ref (B + b0) :: r.map (tw_cv B b)) = (Value.ref b0 :: r).map (tw_cv B b) from rfl, ← hdrop, ← List.map_append, List.take_append_drop]
    have hn : (((st.take q.2.2.2.2.1).reverse).map (tw_cv B b)).length = q.2.2.2.2.1 := by simp; omega
    obtain ⟨-, ho11, hcls, -⟩ := tw_plain_ok _ hk2
    obtain ⟨-, cellB, g1, g2, g3, -⟩ := tw_obj hH ho11 hkd
    have hrecv : ∃ cellB : Cell, H[B + b0]? = some cellB ∧ cellB.vm.isStatics = false ∧ s.vm.findClass (tw_y q.2.2.2.1).cls = some cellB.cls := ⟨cellB, g1, by rw [g3]; rfl, by rw [g2, hcls]; exact (tw_Kn hK ho11).2.1⟩
    exact tw_after hF (va_runV hfix hM ⟨callB_of q.2.2.2.2.1 hts (tw_goodk hk2) rfl rfl rfl (hts _ (tw_at w3 rfl)) (hts _ (tw_at w1 rfl)) ⟨w6.1, w6.2, w5⟩ hR, hts _ (tw_at w2 rfl), hts _ (tw_at w4' rfl)⟩ ⟨tw_Pc_blind, hrecv, hPc⟩ rfl hn hsz hstk (hmon _) hdg ⟨hc, hs⟩) kk'
  case invokespecial i =>
    split at hca; rotate_left; (· cases hca)
    rename_i q hf
    obtain ⟨hq, e1, e2⟩ := tw_find hf
    obtain ⟨-, h6, w1, w2, w3, w4, w5, w6, w7⟩ := tw_cls_ok q hq
    split at hca; rotate_left; (· cases hca)
    rename_i hcond
    split at hca; rotate_left; (· cases hca)
    rename_i b0 r0 hdrop
    cases hca
    rw [if_neg (by omega)] at w2
    obtain ⟨hini, hrt⟩ := w7 hcond.1
    have hstk : st.map (tw_cv B b) = (((st.take q.2.2.2.2.1).reverse).map (tw_cv B b)).reverse ++ .ref (B + b0) :: r.map (tw_cv B b) := by
      rw [← List.map_reverse, List.reverse_reverse, show (Value.ref (B + b0) :: r.map (tw_cv B b)) = (Value.ref b0 :: r).map (tw_cv B b) from rfl, ← hdrop, ← List.map_append, List.take_append_drop]
    have hn : (((st.take q.2.2.2.2.1).reverse).map (tw_cv B b)).length = q.2.2.2.2.1 := by simp; omega
    have hw0 : (Cond.code (tw_y q.2.2.2.1) (tw_cd q.2.2.2.1) (tw_ml q.2.2.2.1) (tw_rt q.2.2.2.1) :: tw_tb) = (Cond.code (tw_y q.2.2.2.1) (tw_cd q.2.2.2.1) (tw_ml q.2.2.2.1) none :: tw_tb) := by rw [hrt]
    by_cases h3 : q.2.2.1 < 3
    · rw [if_pos h3, e1, e2] at w1
      exact tw_after hF (va_runI hfix hM ⟨callB_of q.2.2.2.2.1 hts (tw_goodk hk2) hw0 rfl rfl (hts _ (tw_at w3 rfl)) (hts _ (tw_at w1 rfl)) ⟨w6.1, w6.2, w5⟩ hR, hini, hts _ (tw_at w2 rfl)⟩ ⟨tw_Pc_blind, hPc⟩ rfl hn hsz hstk (hmon _) hdg ⟨hc, hs⟩) kk'
    · have hl := hNX.2.1 q hq h3
      rw [e1, e2] at hl
      exact tw_after hF (va_runIN hfix hM ⟨va_cnB q.2.2.2.2.1 hts (tw_goodk hk2) hw0 rfl rfl hl (hts _ (tw_at w3 rfl)) ⟨w6.1, w6.2, w5⟩ hR, hini, hts _ (tw_at w2 rfl)⟩ ⟨tw_Pc_blind, hPc⟩ rfl hn hsz hstk (hmon _) hdg ⟨hc, hs⟩) kk'
end tw_callw
set_option maxHeartbeats 4000000 in
theorem tw_sim (l : Launch) (D : va_G) (B b : Nat) (sc : Nat × (Nat → Int32)) (hbB : b < B) : ∀ f, tw_S l D B b sc f := by
  intro f
  induction f with
  | zero => intro d k pc ls st g mi mr v g' mi' mr' h; rw [tw_run] at h; cases h
  | succ f ih =>
    intro d k pc ls st g mi mr v g' mi' mr' h p e R s m args below meth c H0 H locs cells slots cs Q hC hdf hdl hX hH hF hL hc hs kk
    have hle := tw_run_le _ _ _ _ _ _ _ _ _ _ _ _ _ h
    rw [tw_run] at h
    cases hd : decode (tw_cd k) pc with
    | error z => rw [hd] at h; cases h
    | ok q =>
      obtain ⟨ins, len⟩ := q
      simp only [hd] at h
      cases hl : tw_lo k ins len pc ls st with
      | some q =>
        obtain ⟨pc', ls', st'⟩ := q
        simp only [hl] at h
        have go : ∀ cs', tw_LS B b cs' k ls' → W p l e R s m args below meth c H locs cells slots Q (F0 m pc' cs' (st'.map (tw_cv B b))) := fun cs' hL' => ih d k pc' ls' st' g mi mr v g' mi' mr' h p e R s m args below meth c H0 H locs cells slots cs' Q hC hdf hdl hX hH hF hL' hc hs kk
        unfold tw_lo at hl
        split at hl
        · rename_i h1
          cases hl
          exact tw_w_ar hC hd h1 (go cs hL)
        · split at hl
          · rename_i h1
            cases hl
            exact tw_w_ld hC hL hd h1 (fun e1 => go cs (by rw [e1]; exact hL))
          · split at hl
            · rename_i h1
              cases hl
              exact tw_w_so hC hL hd h1 go
            · exact tw_w_jp hC hd hl (fun e1 => go cs (by rw [e1]; exact hL))
      | none =>
        simp only [hl] at h
        cases hh : tw_hp sc k d ins len st g mi mr with
        | some q =>
          obtain ⟨st1, g1, mi1, mr1⟩ := q
          simp only [hh] at h
          have l1 := tw_hp_le hh
          have l2 := tw_run_le _ _ _ _ _ _ _ _ _ _ _ _ _ h
          have go : ∀ (H1 : Heap) (locs1 : List Loc), tw_H D B s H1 g1 mi1 mr1 → tw_Fr B H0 H1 locs1 → W p l e R s m args below meth c H1 locs1 (cells + (g1.1 - g.1)) (slots + (g1.2.1 - g.2.1)) Q (F0 m (pc + len) cs (st1.map (tw_cv B b))) := fun H1 locs1 z1 z2 => by
            refine ih d k (pc + len) ls st1 g1 mi1 mr1 v g' mi' mr' h p e R s m args below meth c H0 H1 locs1 _ _ cs Q hC hdf hdl hX z1 z2 hL (by omega) (by omega) ?_
            rw [show cells + (g1.1 - g.1) + (g'.1 - g1.1) = cells + (g'.1 - g.1) by omega, show slots + (g1.2.1 - g.2.1) + (g'.2.1 - g1.2.1) = slots + (g'.2.1 - g.2.1) by omega]
            exact kk
          unfold tw_hp at hh
          split at hh
          · rename_i h1
            cases hh
            have go' := go H locs hH hF
            simp only [Nat.sub_self, Nat.add_zero] at go'
            exact tw_w_rd hC hH hX hbB hF hL.1.1 hdf hdl (by omega) (by omega) hd h1 go'
          · exact tw_w_wr hC hH hF (by omega) (by omega) hd hh go
        | none =>
          simp only [hh] at h
          cases hca : tw_ca k ins len st g with
          | none =>
            simp only [hca] at h
            split at h
            · rename_i v1 hre
              cases h
              have := kk pc cs H locs ins len st hd hre hH hF
              simp only [Nat.sub_self, Nat.add_zero] at this
              exact this
            · cases h
          | some q =>
            obtain ⟨k2, as, r⟩ := q
            simp only [hca] at h
            split at h
            next hcond =>
              obtain ⟨hd1, hr4, hk2, hlg, hlen⟩ := hcond
              cases h1 : tw_run sc f (d - 1) k2 0 (tw_n0 k2 as) [] g mi mr with
              | none => simp only [h1] at h; cases h
              | some q =>
                obtain ⟨v1, g1, mi1, mr1⟩ := q
                simp only [h1] at h
                have l1 := tw_run_le _ _ _ _ _ _ _ _ _ _ _ _ _ h1
                have l2 := tw_run_le _ _ _ _ _ _ _ _ _ _ _ _ _ h
                refine tw_w_ca ih hbB hC hdf hdl hX hH hF hL.1.1 hd1 hca hr4 hk2 hlg hlen h1 (by omega) (by omega) hd (fun H1 locs1 z1 z2 => ?_)
                refine ih d k (pc + 3) ls _ g1 mi1 mr1 v g' mi' mr' h p e R s m args below meth c H0 H1 locs1 _ _ cs Q hC hdf hdl hX z1 z2 hL (by omega) (by omega) ?_
                rw [show cells + (g1.1 - g.1) + (g'.1 - g1.1) = cells + (g'.1 - g.1) by omega, show slots + (g1.2.1 - g.2.1) + (g'.2.1 - g1.2.1) = slots + (g'.2.1 - g.2.1) by omega]
                exact kk
            next => cases h
