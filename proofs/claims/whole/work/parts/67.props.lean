/-! what the descent keeps -/
def tx_va (s : tx_S) : Prop := ∀ k, k < s.2.1 → tw_ok k (s.2.2.1 k)
/-- what a result R keeps from s on; x: how many nodes more there is room for -/
def tx_gd (n : Nat) (s : tx_S) (R : tx_R) : Prop :=
  match R with
  | .inl e => e ≤ n
  | .inr (r, s') => s.1 < s'.1 ∧ s'.1 ≤ n ∧ s'.2.1 + s.1 ≤ s'.1 + s.2.1 ∧ s.2.1 ≤ r ∧ r + 1 = s'.2.1 ∧ (∀ k, k < s.2.1 → s'.2.2.1 k = s.2.2.1 k) ∧ tx_va s'
def tx_G (n : Nat) (g : tx_S → tx_R) : Prop := ∀ s, s.1 ≤ n → tx_va s → tx_gd n s (g s)
section tx_props
variable {n : Nat} {tp : Nat → Nat}
set_option maxRecDepth 100000 in
theorem tx_en_lt {p : Nat} (hp : p ≤ n) (h : ¬ tx_to n tp p = 257) : p < tx_en n tp p := by
  have h1 := tx_pl_le (tp := tp) hp
  have h2 := tx_en_le (tp := tp) hp
  have h3 : tx_pl n tp p < n := by
    apply Decidable.byContradiction
    intro z
    apply h
    unfold tx_to
    rw [if_neg z]
  omega
set_option maxRecDepth 100000 in
theorem tx_gd_mk {s : tx_S} {kd : Nat} {a b lo hi : Int32} {s' : tx_S} (h1 : s.1 < s'.1) (h2 : s'.1 ≤ n) (h3 : s'.2.1 + 1 + s.1 ≤ s'.1 + s.2.1) (h4 : s.2.1 ≤ s'.2.1) (h5 : ∀ k, k < s.2.1 → s'.2.2.1 k = s.2.2.1 k) (h6 : tx_va s') (h7 : tw_ok s'.2.1 (kd, a, b, lo, hi)) : tx_gd n s (tx_mk kd a b lo hi s') := by
  refine ⟨h1, h2, h3, h4, rfl, fun k hk => ?_, fun k hk => ?_⟩
  · show tw_st s'.2.2.1 s'.2.1 _ k = _
    rw [tw_st_n _ _ (by omega)]
    exact h5 k hk
  · show tw_ok k (tw_st s'.2.2.1 s'.2.1 _ k)
    have hk2 : k < s'.2.1 + 1 := hk
    by_cases e : k = s'.2.1
    · rw [e, tw_st_s]; exact h7
    · rw [tw_st_n _ _ e]; exact h6 k (by omega)
/-- from s1, behind a first result -/
def tx_md (n : Nat) (s : tx_S) (r : Nat) (s1 : tx_S) : Prop := s.1 < s1.1 ∧ s1.1 ≤ n ∧ s1.2.1 + s.1 ≤ s1.1 + s.2.1 ∧ s.2.1 ≤ r ∧ r + 1 = s1.2.1 ∧ (∀ k, k < s.2.1 → s1.2.2.1 k = s.2.2.1 k) ∧ tx_va s1
set_option maxRecDepth 100000 in
theorem tx_gd_r {s s' : tx_S} {r : Nat} (h : tx_md n s r s') : tx_gd n s (.inr (r, s')) := h
set_option maxRecDepth 100000 in
theorem tx_lp_gd {c : Nat} {h : Nat → tx_S → tx_R} (hc : c ≠ 257) (hh : ∀ s r s1, tx_md n s r s1 → ¬ tx_to n tp s1.1 = 257 → tx_gd n s (h r (tx_ad n tp s1))) : ∀ k s r s1, tx_md n s r s1 → tx_gd n s (tx_lp n tp c h k r s1) := by
  intro k
  induction k with
  | zero => intro s r s1 hm; exact hm
  | succ k ih =>
    intro s r s1 hm
    rw [tx_lp]
    by_cases e : tx_to n tp s1.1 = c
    · rw [if_pos e]
      have h1 := hh s r s1 hm (by omega)
      cases h2 : h r (tx_ad n tp s1) with
      | inl e => rw [h2] at h1; exact h1
      | inr q =>
        rw [h2] at h1
        obtain ⟨r2, s2⟩ := q
        exact ih s r2 s2 h1
    · rw [if_neg e]; exact hm
set_option maxRecDepth 100000 in
/-- a second part by g from s2 on -/
theorem tx_sn_gd {g : tx_S → tx_R} (hg : tx_G n g) {kd : Nat} {lo hi : Int32} (hk : kd = 3 ∨ kd = 4 ∨ kd = 6 ∨ kd = 7) {s s1 s2 : tx_S} {r : Nat} (hm : tx_md n s r s1) (h1 : s1.1 < s2.1) (h2 : s2.1 ≤ n) (h3 : s2.2.1 = s1.2.1) (h4 : s2.2.2.1 = s1.2.2.1) : tx_gd n s (tx_sn g kd lo hi r s2) := by
  obtain ⟨m1, m2, m3, m4, m5, m6, m7⟩ := hm
  have hva : tx_va s2 := by
    unfold tx_va
    rw [h3, h4]
    exact m7
  have h := hg s2 h2 hva
  unfold tx_sn
  cases hr : g s2 with
  | inl e => rw [hr] at h; exact h
  | inr q =>
    rw [hr] at h
    obtain ⟨r2, s3⟩ := q
    obtain ⟨g1, g2, g3, g4, g5, g6, g7⟩ := h
    rw [h3] at g3 g4 g6
    rw [h4] at g6
    refine tx_gd_mk (by omega) g2 (by omega) (by omega) (fun k hk => by rw [g6 k (by omega), m6 k hk]) g7 ⟨by omega, fun z => by simp only at z; omega, fun z => by simp only at z; omega, fun _ => ⟨r, by omega, rfl⟩, fun _ => ⟨r2, by omega, rfl⟩, fun z => by simp only at z; omega⟩
set_option maxRecDepth 100000 in
theorem tx_both_gd {g : tx_S → tx_R} (hg : tx_G n g) : tx_G n (tx_both n tp g) := by
  intro s hs hv
  have h := hg s hs hv
  unfold tx_both
  cases hr : g s with
  | inl e => rw [hr] at h; exact h
  | inr q =>
    rw [hr] at h
    obtain ⟨r, s1⟩ := q
    exact tx_lp_gd (by decide) (fun s r s1 hm ht => tx_sn_gd hg (Or.inl rfl) hm (tx_en_lt hm.2.1 ht) (tx_en_le hm.2.1).2.1 rfl rfl) 60 s r s1 h
set_option maxRecDepth 100000 in
theorem tx_eith_gd {g : tx_S → tx_R} (hg : tx_G n g) : tx_G n (tx_eith n tp g) := by
  have hb := tx_both_gd (tp := tp) hg
  intro s hs hv
  have h := hb s hs hv
  unfold tx_eith
  cases hr : tx_both n tp g s with
  | inl e => rw [hr] at h; exact h
  | inr q =>
    rw [hr] at h
    obtain ⟨r, s1⟩ := q
    exact tx_lp_gd (by decide) (fun s r s1 hm ht => tx_sn_gd hb (Or.inr (Or.inl rfl)) hm (tx_en_lt hm.2.1 ht) (tx_en_le hm.2.1).2.1 rfl rfl) 60 s r s1 h
set_option maxRecDepth 100000 in
theorem tx_row_gd {g : tx_S → tx_R} (hg : tx_G n g) : tx_G n (tx_row n tp g) := by
  have hb := tx_eith_gd (tp := tp) hg
  intro s hs hv
  have h := hb s hs hv
  unfold tx_row
  cases hr : tx_eith n tp g s with
  | inl e => rw [hr] at h; exact h
  | inr q =>
    rw [hr] at h
    obtain ⟨r, s1⟩ := q
    refine tx_lp_gd (by decide) (fun s r s1 hm ht => ?_) 60 s r s1 h
    have l1 := tx_en_lt hm.2.1 ht
    have l2 := (tx_en_le (tp := tp) hm.2.1).2.1
    have l3 := tx_pl_le (tp := tp) l2
    have l4 := tx_en_le (tp := tp) l2
    have l5 := tx_pl_le (tp := tp) l4.2.1
    have l6 := tx_en_le (tp := tp) l4.2.1
    have l7 := tx_pl_le (tp := tp) l6.2.1
    have l8 := tx_en_le (tp := tp) l6.2.1
    have l9 := tx_pl_le (tp := tp) l8.2.1
    have l10 := tx_en_le (tp := tp) l8.2.1
    unfold tx_then
    split
    · unfold tx_span
      split
      · split
        · split
          · exact tx_sn_gd hb (Or.inr (Or.inr (Or.inr rfl))) hm (by show s1.1 < tx_en n tp (tx_en n tp (tx_en n tp (tx_en n tp (tx_en n tp s1.1)))); omega) l10.2.1 rfl rfl
          · exact l9.2
        · exact l7.2
      · exact l5.2
    · exact tx_sn_gd hb (Or.inr (Or.inr (Or.inl rfl))) hm l1 l2 rfl rfl
set_option maxRecDepth 100000 in
theorem tx_nu_ok {p : Nat} (h : tx_to n tp p = 256) (hb : ∀ j, j < n → tp j < 256) : 1 ≤ tx_nu n tp p ∧ tx_nu n tp p ≤ 999 := by
  unfold tx_to at h
  by_cases c : tx_pl n tp p < n
  · rw [if_pos c] at h
    have := hb _ c
    by_cases c2 : tx_isd n tp (tx_pl n tp p) = true
    · rw [if_pos c2] at h
      by_cases c3 : tx_rl n tp 60 (tx_pl n tp p) - tx_pl n tp p ≤ 3 ∧ 1 ≤ tx_nu n tp p ∧ tx_nu n tp p ≤ 999
      · exact c3.2
      · rw [if_neg c3] at h; omega
    · rw [if_neg c2] at h; omega
  · rw [if_neg c] at h; omega
set_option maxRecDepth 100000 in
theorem tx_wire_gd {s : tx_S} (hs : s.1 ≤ n) (hv : tx_va s) (hw : 97 ≤ tx_to n tp s.1 ∧ tx_to n tp s.1 ≤ 112) : tx_gd n s (tx_wire n tp s) := by
  have l1 := tx_en_lt hs (tp := tp) (by omega)
  have l2 := (tx_en_le (tp := tp) hs).2.1
  have l3 := tx_pl_le (tp := tp) l2
  have l4 := tx_en_le (tp := tp) l2
  have edge : ∀ z, z = 0 ∨ z = 1 ∨ z = 2 → tx_gd n s (tx_mk 1 (nI (tx_to n tp s.1 - 97)) z (-9) (-9) (tx_ad n tp (tx_ad n tp s))) := fun z hz =>
    tx_gd_mk (by show s.1 < tx_en n tp (tx_en n tp s.1); omega) l4.2.1 (by show s.2.1 + 1 + s.1 ≤ tx_en n tp (tx_en n tp s.1) + s.2.1; omega) (Nat.le_refl _) (fun _ _ => rfl) hv ⟨by omega, fun _ => ⟨_, by omega, rfl⟩, fun _ => hz, fun q => by simp only at q; omega, fun q => by simp only at q; omega, fun q => by simp only at q; omega⟩
  unfold tx_wire
  split
  · exact edge 0 (Or.inl rfl)
  · split
    · exact edge 1 (Or.inr (Or.inl rfl))
    · split
      · exact edge 2 (Or.inr (Or.inr rfl))
      · exact tx_gd_mk (by show s.1 < tx_en n tp s.1; omega) l2 (by show s.2.1 + 1 + s.1 ≤ tx_en n tp s.1 + s.2.1; omega) (Nat.le_refl _) (fun _ _ => rfl) hv ⟨by omega, fun _ => ⟨_, by omega, rfl⟩, fun q => by simp only at q; omega, fun q => by simp only at q; omega, fun q => by simp only at q; omega, fun q => by simp only at q; omega⟩
set_option maxRecDepth 100000 in
theorem tx_one_gd (hb : ∀ j, j < n → tp j < 256) : ∀ f d, tx_G n (tx_one n tp f d) := by
  intro f
  induction f with
  | zero => intro d s hs hv; exact Nat.zero_le n
  | succ f ih =>
    intro d s hs hv
    have l0 := tx_pl_le (tp := tp) hs
    have l2 := (tx_en_le (tp := tp) hs).2.1
    have l3 := tx_pl_le (tp := tp) l2
    have l4 := tx_en_le (tp := tp) l2
    rw [tx_one]
    split
    · rename_i c; exact tx_wire_gd hs hv c
    split
    · exact l0.2
    split
    · rename_i c
      have l1 := tx_en_lt hs (tp := tp) (by omega)
      split
      · have h := ih (d + 1) (tx_ad n tp (tx_ad n tp s)) l4.2.1 hv
        have hn := tx_nu_ok c hb
        cases hr : tx_one n tp f (d + 1) (tx_ad n tp (tx_ad n tp s)) with
        | inl e => rw [hr] at h; exact h
        | inr q =>
          rw [hr] at h
          obtain ⟨r, s2⟩ := q
          obtain ⟨g1, g2, g3, g4, g5, g6, g7⟩ := h
          have g1' : tx_en n tp (tx_en n tp s.1) < s2.1 := g1
          have g3' : s2.2.1 + tx_en n tp (tx_en n tp s.1) ≤ s2.1 + s.2.1 := g3
          have g4' : s.2.1 ≤ r := g4
          exact tx_gd_mk (by omega) g2 (by omega) (by omega) g6 g7 ⟨by omega, fun q => by simp only at q; omega, fun q => by simp only at q; omega, fun _ => ⟨r, by omega, rfl⟩, fun q => by simp only at q; omega, fun _ => ⟨_, hn.1, by omega, rfl⟩⟩
      · exact l3.2
    split
    · have l1 := tx_en_lt hs (tp := tp) (by omega)
      have h := ih (d + 1) (tx_ad n tp s) l2 hv
      cases hr : tx_one n tp f (d + 1) (tx_ad n tp s) with
      | inl e => rw [hr] at h; exact h
      | inr q =>
        rw [hr] at h
        obtain ⟨r, s2⟩ := q
        obtain ⟨g1, g2, g3, g4, g5, g6, g7⟩ := h
        have g1' : tx_en n tp s.1 < s2.1 := g1
        have g3' : s2.2.1 + tx_en n tp s.1 ≤ s2.1 + s.2.1 := g3
        have g4' : s.2.1 ≤ r := g4
        exact tx_gd_mk (by omega) g2 (by omega) (by omega) g6 g7 ⟨by omega, fun q => by simp only at q; omega, fun q => by simp only at q; omega, fun _ => ⟨r, by omega, rfl⟩, fun q => by simp only at q; omega, fun q => by simp only at q; omega⟩
    split
    · have l1 := tx_en_lt hs (tp := tp) (by omega)
      have h := tx_row_gd (tp := tp) (ih (d + 1)) (tx_ad n tp s) l2 hv
      cases hr : tx_row n tp (tx_one n tp f (d + 1)) (tx_ad n tp s) with
      | inl e => rw [hr] at h; exact h
      | inr q =>
        rw [hr] at h
        obtain ⟨r, s2⟩ := q
        obtain ⟨g1, g2, g3, g4, g5, g6, g7⟩ := h
        have g1' : tx_en n tp s.1 < s2.1 := g1
        have g3' : s2.2.1 + tx_en n tp s.1 ≤ s2.1 + s.2.1 := g3
        have m1 := tx_pl_le (tp := tp) g2
        have m2 := tx_en_le (tp := tp) g2
        show tx_gd n s (if tx_to n tp s2.1 = 41 then .inr (r, tx_ad n tp s2) else .inl (tx_pl n tp s2.1))
        split
        · exact ⟨by show s.1 < tx_en n tp s2.1; omega, m2.2.1, by show s2.2.1 + s.1 ≤ tx_en n tp s2.1 + s.2.1; omega, g4, g5, g6, g7⟩
        · exact m1.2
    · exact l0.2
end tx_props
