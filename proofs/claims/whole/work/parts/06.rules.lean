/-! an instruction of the small machine, as the machine does it -/
def tw_Bd (p : Program) (s : State) (m : MethodId) (args : Array Value) (meth : Method) (c : Code) (D : va_G) (k : Nat) : Prop :=
  p.tables.exec = Jvm.exec ∧ c.code = tw_cd k ∧ c.maxLocals = tw_ml k ∧ s.vm.findClass (tw_R (tw_ow k)) = some m.cls ∧ (∀ w ∈ tw_tb, w.before args s = true) ∧ tw_NX s ∧ va_K D tw_cl [] s ∧ ((tw_y k).name = "<init>" → meth.name = "<init>")
section tw_rules
variable {p : Program} {l : Launch} {e : Env} {R : Room} {s : State} {m : MethodId} {args : Array Value} {below : List Frame} {meth : Method} {c : Code} {H : Heap} {locs : List Loc} {cells slots : Nat} {Q : State → Prop}
variable {D : va_G} {B b k pc : Nat} {cs : Array Slot} {rest : List Value} {g : tw_G} {mi : tw_I} {mr : tw_Q} {ls ls' : tw_L} {st st' : List Value} {len : Nat}
set_option maxHeartbeats 4000000 in
theorem tw_w_ar (hC : tw_Bd p s m args meth c D k) {ins : Instr} (hdg : decode (tw_cd k) pc = .ok (ins, len)) (h : tw_ar ins len st = some st')
    (kk : W p l e R s m args below meth c H locs cells slots Q (F0 m (pc + len) cs (st'.map (tw_cv B b)))) : W p l e R s m args below meth c H locs cells slots Q (F0 m pc cs (st.map (tw_cv B b))) := by
  obtain ⟨hx, hb, -⟩ := hC
  cases ins
  all_goals try (simp only [tw_ar, reduceCtorEq] at h; done)
  all_goals simp only [tw_ar] at h
  all_goals (split at h; rotate_left; · cases h)
  all_goals rename_i hlen
  all_goals subst hlen
  case iconst => cases h; exact lv_iconst hx hb hdg rfl kk
  case bipush => cases h; exact lv_bipush hx hb hdg rfl kk
  case sipush => cases h; exact lv_sipush hx hb hdg rfl kk
  case lconst => cases h; exact lv_lconst hx hb hdg rfl kk
  case aconst_null => cases h; exact lv_null hx hb hdg kk
  case iadd => split at h; rotate_left; (· cases h); cases h; exact lv_iadd hx hb hdg kk
  case isub => split at h; rotate_left; (· cases h); cases h; exact lv_isub hx hb hdg kk
  case imul => split at h; rotate_left; (· cases h); cases h; exact lv_imul hx hb hdg kk
  case iand => split at h; rotate_left; (· cases h); cases h; exact lv_iand hx hb hdg kk
  case ior => split at h; rotate_left; (· cases h); cases h; exact lv_ior hx hb hdg kk
  case ixor => split at h; rotate_left; (· cases h); cases h; exact lv_ixor hx hb hdg kk
  case ishl => split at h; rotate_left; (· cases h); cases h; exact lv_ishl hx hb hdg kk
  case ishr => split at h; rotate_left; (· cases h); cases h; exact lv_ishr hx hb hdg kk
  case idiv => split at h; rotate_left; (· cases h); split at h; (· cases h); rename_i hne; cases h; exact lv_idiv hx hb hdg hne kk
  case irem => split at h; rotate_left; (· cases h); split at h; (· cases h); rename_i hne; cases h; exact lv_irem hx hb hdg hne kk
  case land => split at h; rotate_left; (· cases h); cases h; exact lv_land hx hb hdg kk
  case lor => split at h; rotate_left; (· cases h); cases h; exact lv_lor hx hb hdg kk
  case lshl => split at h; rotate_left; (· cases h); cases h; exact lv_lshl hx hb hdg rfl kk
  case lshr => split at h; rotate_left; (· cases h); cases h; exact lv_lshr hx hb hdg rfl kk
  case lushr => split at h; rotate_left; (· cases h); cases h; exact lv_lushr hx hb hdg rfl kk
  case lcmp => split at h; rotate_left; (· cases h); cases h; exact W.lcmp hx hb hdg kk
  case i2l => split at h; rotate_left; (· cases h); cases h; exact lv_i2l hx hb hdg rfl kk
  case l2i => split at h; rotate_left; (· cases h); cases h; exact lv_l2i hx hb hdg rfl kk
  case dup => split at h; rotate_left; (· cases h); split at h; rotate_left; (· cases h); rename_i hc; cases h; exact lv_dup hx hb hdg (by rw [tw_cat]; exact hc) kk
  case dup2 => split at h; rotate_left; (· cases h); split at h; rotate_left; (· cases h); rename_i hc; cases h; exact lv_dup2_11 hx hb hdg (by rw [tw_cat]; exact hc.1) (by rw [tw_cat]; exact hc.2) kk
  case pop => split at h; rotate_left; (· cases h); split at h; rotate_left; (· cases h); rename_i hc; cases h; exact lv_pop hx hb hdg (by rw [tw_cat]; exact hc) kk
set_option maxHeartbeats 4000000 in
theorem tw_w_ld {pc' : Nat} (hC : tw_Bd p s m args meth c D k) (hL : tw_LS B b cs k ls) {ins : Instr} (hdg : decode (tw_cd k) pc = .ok (ins, len)) (h : tw_ld ins len pc ls st = some (pc', ls', st'))
    (kk : ls' = ls → W p l e R s m args below meth c H locs cells slots Q (F0 m pc' cs (st'.map (tw_cv B b)))) : W p l e R s m args below meth c H locs cells slots Q (F0 m pc cs (st.map (tw_cv B b))) := by
  obtain ⟨hx, hb, -⟩ := hC
  cases ins
  all_goals try (simp only [tw_ld, reduceCtorEq] at h; done)
  all_goals simp only [tw_ld] at h
  all_goals (split at h; rotate_left; · cases h)
  all_goals rename_i hlen
  all_goals subst hlen
  case iload_n => split at h; rotate_left; (· cases h); rename_i hv; cases h; exact lv_iload_n hx hb hdg rfl (tw_LS_at hL hv) (kk rfl)
  case iload => split at h; rotate_left; (· cases h); rename_i hv; cases h; exact lv_iload hx hb hdg (tw_LS_at hL hv) (kk rfl)
  case lload_n => split at h; rotate_left; (· cases h); rename_i hv; cases h; exact lv_lload_n hx hb hdg rfl (tw_LS_at hL hv) (kk rfl)
  case lload => split at h; rotate_left; (· cases h); rename_i hv; cases h; exact lv_lload hx hb hdg (tw_LS_at hL hv) (kk rfl)
  case aload_n =>
    split at h
    · rename_i hv; cases h; exact lv_aload_n hx hb hdg rfl (tw_LS_at hL hv) (kk rfl)
    · rename_i hv; cases h; exact lv_aload_nN hx hb hdg rfl (tw_LS_at hL hv) (kk rfl)
    · rename_i hv; cases h; exact lv_aload_n hx hb hdg rfl (tw_LS_at hL hv) (kk rfl)
    · cases h
  case aload =>
    split at h
    · rename_i hv; cases h; exact lv_aload hx hb hdg (tw_LS_at hL hv) (kk rfl)
    · rename_i hv; cases h; exact lv_aloadN hx hb hdg (tw_LS_at hL hv) (kk rfl)
    · cases h
set_option maxHeartbeats 4000000 in
theorem tw_w_so {pc' : Nat} (hC : tw_Bd p s m args meth c D k) (hL : tw_LS B b cs k ls) {ins : Instr} (hdg : decode (tw_cd k) pc = .ok (ins, len)) (h : tw_so k ins len pc ls st = some (pc', ls', st'))
    (kk : ∀ cs', tw_LS B b cs' k ls' → W p l e R s m args below meth c H locs cells slots Q (F0 m pc' cs' (st'.map (tw_cv B b)))) : W p l e R s m args below meth c H locs cells slots Q (F0 m pc cs (st.map (tw_cv B b))) := by
  obtain ⟨hx, hb, -⟩ := hC
  cases ins
  all_goals try (simp only [tw_so, reduceCtorEq] at h; done)
  all_goals simp only [tw_so] at h
  all_goals (split at h; rotate_left; · cases h)
  all_goals rename_i hlen
  all_goals subst hlen
  case istore_n =>
    split at h; rotate_left; (· cases h)
    obtain ⟨l1, hs, h1⟩ := Option.map_eq_some_iff.mp h
    cases h1
    exact lv_istore_n hx hb hdg rfl hL.1 (by rw [← hL.2.1]; exact tw_sto_lt hs) rfl (fun cs' h' => kk cs' (tw_LS_set hL hs rfl h'))
  case istore =>
    split at h; rotate_left; (· cases h)
    obtain ⟨l1, hs, h1⟩ := Option.map_eq_some_iff.mp h
    cases h1
    exact lv_istore hx hb hdg hL.1 (by rw [← hL.2.1]; exact tw_sto_lt hs) rfl (fun cs' h' => kk cs' (tw_LS_set hL hs rfl h'))
  case astore_n =>
    split at h
    · obtain ⟨l1, hs, h1⟩ := Option.map_eq_some_iff.mp h
      cases h1
      exact lv_astore_n hx hb hdg rfl hL.1 (by rw [← hL.2.1]; exact tw_sto_lt hs) rfl (fun cs' h' => kk cs' (tw_LS_set hL hs rfl h'))
    · obtain ⟨l1, hs, h1⟩ := Option.map_eq_some_iff.mp h
      cases h1
      exact lv_astore_nN hx hb hdg rfl hL.1 (by rw [← hL.2.1]; exact tw_sto_lt hs) rfl (fun cs' h' => kk cs' (tw_LS_set hL hs rfl h'))
    · cases h
  case astore =>
    split at h
    · obtain ⟨l1, hs, h1⟩ := Option.map_eq_some_iff.mp h
      cases h1
      exact lv_astore hx hb hdg hL.1 (by rw [← hL.2.1]; exact tw_sto_lt hs) rfl (fun cs' h' => kk cs' (tw_LS_set hL hs rfl h'))
    · obtain ⟨l1, hs, h1⟩ := Option.map_eq_some_iff.mp h
      cases h1
      exact lv_astoreN hx hb hdg hL.1 (by rw [← hL.2.1]; exact tw_sto_lt hs) rfl (fun cs' h' => kk cs' (tw_LS_set hL hs rfl h'))
    · cases h
  case iinc i n =>
    split at h; rotate_left; (· cases h)
    rename_i x hv
    obtain ⟨l1, hs, h1⟩ := Option.map_eq_some_iff.mp h
    cases h1
    have hm : (i, Value.int x) ∈ tw_as B b 0 ls := (tw_as_mem ls 0).mpr ⟨i, .int x, hv, by simp [tw_cv]⟩
    obtain ⟨j, hj⟩ := List.getElem?_of_mem hm
    exact lv_iinc hx hb hdg hL.1 hj rfl (by rw [← hL.2.1]; exact tw_sto_lt hs) rfl (fun cs' h' => kk cs' (tw_LS_set hL hs rfl h'))
theorem tw_to_spec {pc pc' : Nat} {off : Int} {ls ls' : tw_L} {st st' : List Value} (h : tw_to pc off ls st = some (pc', ls', st')) : (pc : Int) + off = (pc' : Int) ∧ ls' = ls ∧ st' = st := by
  unfold tw_to at h
  split at h
  · cases h
    exact ⟨by omega, rfl, rfl⟩
  · cases h
set_option maxHeartbeats 4000000 in
theorem tw_w_jp {pc' : Nat} (hC : tw_Bd p s m args meth c D k) {ins : Instr} (hdg : decode (tw_cd k) pc = .ok (ins, len)) (h : tw_jp ins len pc ls st = some (pc', ls', st'))
    (kk : ls' = ls → W p l e R s m args below meth c H locs cells slots Q (F0 m pc' cs (st'.map (tw_cv B b)))) : W p l e R s m args below meth c H locs cells slots Q (F0 m pc cs (st.map (tw_cv B b))) := by
  obtain ⟨hx, hb, -⟩ := hC
  cases ins
  all_goals try (simp only [tw_jp, reduceCtorEq] at h; done)
  all_goals simp only [tw_jp] at h
  case tableswitch dflt lo hi offs =>
    split at h; rotate_left; (· cases h)
    split at h
    · rename_i hr
      obtain ⟨h1, h2, rfl⟩ := tw_to_spec h
      exact lv_tableOut hx hb hdg hr h1 (kk h2)
    · rename_i hr
      split at h; rotate_left; (· cases h)
      rename_i ho
      obtain ⟨h1, h2, rfl⟩ := tw_to_spec h
      exact lv_tableIn hx hb hdg (fun q => hr (Or.inl q)) (fun q => hr (Or.inr q)) ho h1 (kk h2)
  case lookupswitch dflt ps =>
    split at h; rotate_left; (· cases h)
    split at h; rotate_left; (· cases h)
    rename_i hp
    obtain ⟨h1, h2, rfl⟩ := tw_to_spec h
    exact lv_lookup hx hb hdg hp rfl h1 (kk h2)
  case ifCond bb off =>
    split at h; rotate_left; (· cases h)
    rename_i hlen
    obtain ⟨rfl, ht⟩ := hlen
    split at h; rotate_left; (· cases h)
    have e1 : (pc : Int) + off = ((((pc : Int) + off).toNat : Nat) : Int) := by omega
    simp only [tw_to, if_pos ht] at h
    cases bb <;> simp only [tw_ci, decide_eq_true_eq] at h
    · refine lv_if_eq hx hb hdg e1 (fun q => ?_) (fun q => ?_) <;> simp only [q, ↓reduceIte] at h <;> cases h <;> exact kk rfl
    · refine lv_if_ne hx hb hdg e1 (fun q => ?_) (fun q => ?_) <;> simp only [q, ↓reduceIte, not_true_eq_false, not_false_eq_true] at h <;> cases h <;> exact kk rfl
    · refine lv_if_lt hx hb hdg e1 (fun q => ?_) (fun q => ?_) <;> simp only [q, ↓reduceIte] at h <;> cases h <;> exact kk rfl
    · refine lv_if_ge hx hb hdg e1 (fun q => ?_) (fun q => ?_) <;> simp only [q, ↓reduceIte] at h <;> cases h <;> exact kk rfl
    · refine lv_if_gt hx hb hdg e1 (fun q => ?_) (fun q => ?_) <;> simp only [q, ↓reduceIte] at h <;> cases h <;> exact kk rfl
    · refine lv_if_le hx hb hdg e1 (fun q => ?_) (fun q => ?_) <;> simp only [q, ↓reduceIte] at h <;> cases h <;> exact kk rfl
  case if_icmp bb off =>
    split at h; rotate_left; (· cases h)
    rename_i hlen
    obtain ⟨rfl, ht⟩ := hlen
    split at h; rotate_left; (· cases h)
    have e1 : (pc : Int) + off = ((((pc : Int) + off).toNat : Nat) : Int) := by omega
    simp only [tw_to, if_pos ht] at h
    cases bb <;> simp only [tw_ci, decide_eq_true_eq] at h
    · refine lv_icmp_eq hx hb hdg e1 (fun q => ?_) (fun q => ?_) <;> simp only [q, ↓reduceIte] at h <;> cases h <;> exact kk rfl
    · refine lv_icmp_ne hx hb hdg e1 (fun q => ?_) (fun q => ?_) <;> simp only [q, ↓reduceIte, not_true_eq_false, not_false_eq_true] at h <;> cases h <;> exact kk rfl
    · refine lv_icmp_lt hx hb hdg e1 (fun q => ?_) (fun q => ?_) <;> simp only [q, ↓reduceIte] at h <;> cases h <;> exact kk rfl
    · refine lv_icmp_ge hx hb hdg e1 (fun q => ?_) (fun q => ?_) <;> simp only [q, ↓reduceIte] at h <;> cases h <;> exact kk rfl
    · refine lv_icmp_gt hx hb hdg e1 (fun q => ?_) (fun q => ?_) <;> simp only [q, ↓reduceIte] at h <;> cases h <;> exact kk rfl
    · refine lv_icmp_le hx hb hdg e1 (fun q => ?_) (fun q => ?_) <;> simp only [q, ↓reduceIte] at h <;> cases h <;> exact kk rfl
  all_goals (split at h; rotate_left; · cases h)
  all_goals rename_i hlen
  all_goals subst hlen
  case goto =>
    obtain ⟨h1, h2, rfl⟩ := tw_to_spec h
    exact lv_goto hx hb hdg h1 (kk h2)
  case ifnull =>
    split at h
    · cases h; exact lv_ifnull hx hb hdg (kk rfl)
    · obtain ⟨h1, h2, rfl⟩ := tw_to_spec h
      exact lv_ifnullN hx hb hdg h1 (kk h2)
    · cases h
  case ifnonnull =>
    split at h
    · obtain ⟨h1, h2, rfl⟩ := tw_to_spec h
      exact lv_ifnonnull hx hb hdg h1 (kk h2)
    · cases h; exact lv_ifnonnullN hx hb hdg (kk rfl)
    · cases h
end tw_rules
