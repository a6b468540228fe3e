/-! the small machine's run is the machine's -/
section tw_sims
variable {p : Program} {l : Launch} {e : Env} {R : Room} {s : State} {m : MethodId} {args : Array Value} {below : List Frame} {meth : Method} {c : Code} {H : Heap} {locs : List Loc} {cells slots : Nat} {Q : State → Prop}
variable {D : va_G} {B b k pc : Nat} {cs : Array Slot} {rest : List Value} {g : tw_G} {mi : tw_I} {mr : tw_Q} {H0 : Heap} {sc : Nat × (Nat → Int32)}
theorem tw_fv_sti {c a kf : Nat} {x : Int32} (h : tw_rf c kf = false) (j : Nat) : updV (tw_fv B mi mr c a) kf (.int x) j = tw_fv B (tw_st mi a (tw_st (mi a) kf x)) mr c a j := by
  by_cases hj : j = kf
  · subst hj
    simp [updV, tw_fv, h, tw_st_s]
  · simp [updV, tw_fv, hj, tw_st_s, tw_st_n]
theorem tw_fv_str {c a kf v : Nat} (h : tw_rf c kf = true) (j : Nat) : updV (tw_fv B mi mr c a) kf (.ref (B + v)) j = tw_fv B mi (tw_st mr a (tw_st (mr a) kf (some v))) c a j := by
  by_cases hj : j = kf
  · subst hj
    simp [updV, tw_fv, h, tw_st_s, va_rf]
  · simp [updV, tw_fv, hj, tw_st_s, tw_st_n]
theorem tw_wr_le {k : Nat} {ins : Instr} {len : Nat} {st st' : List Value} {g' : tw_G} {mi' : tw_I} {mr' : tw_Q} (h : tw_wr k ins len st g mi mr = some (st', g', mi', mr')) : g.1 ≤ g'.1 ∧ g.2.1 ≤ g'.2.1 := by
  cases ins
  all_goals try (simp only [tw_wr, reduceCtorEq] at h; done)
  case newarray t => cases t <;> simp only [tw_wr, reduceCtorEq] at h <;> ((repeat' split at h) <;> first | (cases h; done) | (cases h; exact ⟨Nat.le_succ _, Nat.le_add_right _ _⟩))
  all_goals simp only [tw_wr] at h
  all_goals ((repeat' split at h) <;> first | (cases h; done) | (cases h; exact ⟨Nat.le_refl _, Nat.le_refl _⟩) | (cases h; exact ⟨Nat.le_succ _, Nat.le_add_right _ _⟩))
set_option maxHeartbeats 4000000 in
theorem tw_w_wr (hC : tw_Bd p s m args meth c D k) (hH : tw_H D B s H g mi mr) (hF : tw_Fr B H0 H locs) {ins : Instr} {len : Nat} {st st' : List Value} {g' : tw_G} {mi' : tw_I} {mr' : tw_Q} (hc : cells + (g'.1 - g.1) ≤ R.cells) (hs : slots + (g'.2.1 - g.2.1) ≤ R.slots) (hdg : decode (tw_cd k) pc = .ok (ins, len)) (h : tw_wr k ins len st g mi mr = some (st', g', mi', mr'))
    (kk : ∀ (H1 : Heap) (locs1 : List Loc), tw_H D B s H1 g' mi' mr' → tw_Fr B H0 H1 locs1 → W p l e R s m args below meth c H1 locs1 (cells + (g'.1 - g.1)) (slots + (g'.2.1 - g.2.1)) Q (F0 m (pc + len) cs (st'.map (tw_cv B b)))) : W p l e R s m args below meth c H locs cells slots Q (F0 m pc cs (st.map (tw_cv B b))) := by
  cases ins
  all_goals try (simp only [tw_wr, reduceCtorEq] at h; done)
  case newarray t =>
    cases t <;> simp only [tw_wr, reduceCtorEq] at h
    · split at h; rotate_left; (· cases h)
      rename_i hlen
      subst hlen
      split at h; rotate_left; (· cases h)
      split at h; rotate_left; (· cases h)
      rename_i n r hn
      cases h
      simp only [tw_gn, Nat.add_sub_cancel_left] at hc hs kk
      exact tw_w_newz hC hH hF hn.1 hn.2 hc hs hdg (fun H1 z1 z2 => kk H1 _ z1 z2)
    · split at h; rotate_left; (· cases h)
      rename_i hlen
      subst hlen
      split at h; rotate_left; (· cases h)
      split at h; rotate_left; (· cases h)
      rename_i n r hn
      cases h
      simp only [tw_gn, Nat.add_sub_cancel_left] at hc hs kk
      exact tw_w_newi hC hH hF hn.1 hn.2 hc hs hdg (fun H1 z1 z2 => kk H1 _ z1 z2)
  all_goals simp only [tw_wr] at h
  all_goals (split at h; rotate_left; · cases h)
  all_goals rename_i hlen
  case anewarray i =>
    obtain ⟨rfl, ho, rfl⟩ := hlen
    split at h; rotate_left; (· cases h)
    split at h; rotate_left; (· cases h)
    rename_i n r hn
    cases h
    simp only [tw_gn, Nat.add_sub_cancel_left] at hc hs kk
    exact tw_w_newr hC ho hH hF hn.1 hn.2 hc hs hdg (fun H1 z1 z2 => kk H1 _ z1 z2)
  all_goals subst hlen
  case new i =>
    split at h; rotate_left; (· cases h)
    rename_i q hf
    cases h
    simp only [tw_gn, Nat.add_sub_cancel_left] at hc hs kk
    exact tw_w_new hC hH hF hf hc hs hdg (fun H1 z1 z2 => kk H1 _ z1 z2)
  case iastore =>
    split at h; rotate_left; (· cases h)
    split at h; rotate_left; (· cases h)
    rename_i ha
    cases h
    simp only [Nat.sub_self, Nat.add_zero] at kk
    exact tw_w_iast hC hH hF ha.1 ha.2 hdg kk
  case bastore =>
    split at h; rotate_left; (· cases h)
    split at h; rotate_left; (· cases h)
    rename_i ha
    cases h
    simp only [Nat.sub_self, Nat.add_zero] at kk
    exact tw_w_zast hC hH hF ha.2.1 ha.1 ha.2.2 hdg kk
  case aastore =>
    split at h; rotate_left; (· cases h)
    split at h; rotate_left; (· cases h)
    rename_i ha
    cases h
    simp only [Nat.sub_self, Nat.add_zero] at kk
    exact tw_w_aast hC hH hF ha.1 ha.2.1 ha.2.2 hdg kk
  case putfield i =>
    split at h; rotate_left; (· cases h)
    rename_i q hf
    split at h; rotate_left; (· cases h)
    rename_i hn
    split at h
    · split at h; rotate_left; (· cases h)
      rename_i x a r ha
      cases h
      simp only [Nat.sub_self, Nat.add_zero] at kk
      have hrf : tw_rf q.2.2.1 q.2.2.2.1 = false := by
        unfold tw_rf
        rcases ha.2 with h1 | ⟨h1, -⟩ <;> rw [h1]
      refine tw_w_put (v := .int x) hC hH hF hf hn.1 hn.2 ha.1 ?_ ?_ (fun y hy => tw_st_n _ _ hy) (fun y hy => rfl) (fun j _ => tw_fv_sti hrf j) hdg kk
      · rcases ha.2 with h1 | ⟨h1, h2⟩
        · rw [h1]; rfl
        · rw [h1]; rcases h2 with rfl | rfl <;> rfl
      · rcases ha.2 with h1 | ⟨h1, h2⟩
        · rw [h1]; rfl
        · rw [h1]; rcases h2 with rfl | rfl <;> rfl
    · split at h; rotate_left; (· cases h)
      rename_i v a r ha
      cases h
      simp only [Nat.sub_self, Nat.add_zero] at kk
      have hrf := ha.2
      refine tw_w_put (v := .ref (B + v)) hC hH hF hf hn.1 hn.2 ha.1 ?_ ?_ (fun y hy => rfl) (fun y hy => tw_st_n _ _ hy) (fun j _ => tw_fv_str hrf j) hdg kk
      · unfold tw_rf at hrf
        split at hrf
        · rename_i h1; rw [h1]; rfl
        · rename_i h1; rw [h1]; rfl
        · cases hrf
      · unfold tw_rf at hrf
        split at hrf
        · rename_i h1; rw [h1]; rfl
        · rename_i h1; rw [h1]; rfl
        · cases hrf
    · cases h
theorem tw_hp_le {k d : Nat} {ins : Instr} {len : Nat} {st st' : List Value} {g' : tw_G} {mi' : tw_I} {mr' : tw_Q} (h : tw_hp sc k d ins len st g mi mr = some (st', g', mi', mr')) : g.1 ≤ g'.1 ∧ g.2.1 ≤ g'.2.1 := by
  unfold tw_hp at h
  split at h
  · cases h; exact ⟨Nat.le_refl _, Nat.le_refl _⟩
  · exact tw_wr_le h
theorem tw_run_le : ∀ (f d k pc : Nat) (ls : tw_L) (st : List Value) (g : tw_G) (mi : tw_I) (mr : tw_Q) (v : Option Value) (g' : tw_G) (mi' : tw_I) (mr' : tw_Q), tw_run sc f d k pc ls st g mi mr = some (v, g', mi', mr') → g.1 ≤ g'.1 ∧ g.2.1 ≤ g'.2.1 := by
  intro f
  induction f with
  | zero => intro d k pc ls st g mi mr v g' mi' mr' h; rw [tw_run] at h; cases h
  | succ f ih =>
    intro d k pc ls st g mi mr v g' mi' mr' h
    rw [tw_run] at h
    cases hd : decode (tw_cd k) pc with
    | error z => rw [hd] at h; cases h
    | ok q =>
      obtain ⟨ins, len⟩ := q
      simp only [hd] at h
      cases hl : tw_lo k ins len pc ls st with
      | some q => simp only [hl] at h; exact ih _ _ _ _ _ _ _ _ _ _ _ _ h
      | none =>
        simp only [hl] at h
        cases hh : tw_hp sc k d ins len st g mi mr with
        | some q =>
          obtain ⟨st1, g1, mi1, mr1⟩ := q
          simp only [hh] at h
          have h1 := tw_hp_le hh
          have h2 := ih _ _ _ _ _ _ _ _ _ _ _ _ h
          exact ⟨Nat.le_trans h1.1 h2.1, Nat.le_trans h1.2 h2.2⟩
        | none =>
          simp only [hh] at h
          cases hc : tw_ca k ins len st g with
          | none =>
            simp only [hc] at h
            split at h
            · cases h; exact ⟨Nat.le_refl _, Nat.le_refl _⟩
            · cases h
          | some q =>
            obtain ⟨k2, as, r⟩ := q
            simp only [hc] at h
            split at h
            next hcond =>
              cases h1 : tw_run sc f (d - 1) k2 0 (tw_n0 k2 as) [] g mi mr with
              | none => simp only [h1] at h; cases h
              | some q =>
                obtain ⟨v1, g1, mi1, mr1⟩ := q
                simp only [h1] at h
                have e1 := ih _ _ _ _ _ _ _ _ _ _ _ _ h1
                have e2 := ih _ _ _ _ _ _ _ _ _ _ _ _ h
                exact ⟨Nat.le_trans e1.1 e2.1, Nat.le_trans e1.2 e2.2⟩
            next => cases h
end tw_sims
