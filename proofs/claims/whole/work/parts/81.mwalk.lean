/-! the reference reads as the descent does -/
/-- what a result leads to -/
def tx_go (A : Nat → Prop) (B : Nat → tx_S → Prop) : tx_R → Prop
  | .inl e => A e
  | .inr (r, s) => B r s
section tw_walk0
variable (sc : Nat × (Nat → Int32)) (d : Nat) (Q : Option Value → tw_G → tw_I → tw_Q → Prop) (mi0 : tw_I) (n : Nat) (tp : Nat → Nat) (t s' i : Nat)
def tx_W1 (D p0 : Nat) (g : tx_S → tx_R) : Prop := ∀ K s, tx_dp K = D → p0 ≤ s.1 → s.1 ≤ n → tx_va s → tx_go (tx_FF Q mi0 t s' i) (tx_PB sc d Q mi0 n tp t s' i K) (g s) → tx_PA sc d Q mi0 n tp t s' i K s
/-- behind a ; the number and its * are taken at once -/
def tx_W2 (D p0 : Nat) (g : tx_S → tx_R) : Prop := ∀ K s, tx_dp K = D → p0 ≤ s.1 → s.1 ≤ n → tx_va s → tx_to n tp s.1 = 256 → tx_to n tp (tx_ad n tp s).1 = 42 → tx_go (tx_FF Q mi0 t s' i) (tx_PB sc d Q mi0 n tp t s' i K) (g s) →
  (D = 10 → tx_FF Q mi0 t s' i (tx_pl n tp s.1)) ∧ (¬ D = 10 → tx_PA sc d Q mi0 n tp t s' i ((2, -9, nI (tx_nu n tp s.1), -9) :: K) (tx_ad n tp (tx_ad n tp s)))
end tw_walk0
section tw_walk
variable {sc : Nat × (Nat → Int32)} {d t s' i n p0 D : Nat} {mi mi0 : tw_I} {Q : Option Value → tw_G → tw_I → tw_Q → Prop} {tp : Nat → Nat} {s : tx_S} {K : tx_K} {g : tx_S → tx_R}
set_option maxRecDepth 100000 in
theorem tx_dp_c {w : Nat} {a lo hi : Int32} (h : ¬ w < 3) (hD : tx_dp K = D) : tx_dp ((w, a, lo, hi) :: K) = D := by
  simp only [tx_dp, h, ↓reduceIte, Nat.zero_add]
  exact hD
set_option maxRecDepth 100000 in
theorem tx_w_bothl (hb : ∀ j, j < n → tp j < 256) (hg : tx_G n g) (H : tx_W1 sc d Q mi0 n tp t s' i D p0 g) (hD : tx_dp K = D) : ∀ k r s0 s1, n < s1.1 + k → p0 ≤ s1.1 → tx_md n s0 r s1 → tx_go (tx_FF Q mi0 t s' i) (tx_PC sc d Q mi0 n tp t s' i 109 K) (tx_lp n tp 38 (tx_sn g 3 (-9) (-9)) k r s1) → tx_PC sc d Q mi0 n tp t s' i 83 K r s1 := by
  intro k
  induction k with
  | zero =>
    intro r s0 s1 hk hp hm hG
    have := hm.2.1
    omega
  | succ k ih =>
    intro r s0 s1 hk hp hm hG
    have hmm := hm
    obtain ⟨m1, m2, m3, m4, m5, m6, m7⟩ := hm
    refine tx_q_38 hb (fun c => ?_) (fun c => ?_)
    · have l1 := tx_en_lt (tp := tp) m2 (by omega)
      have l2 := tx_en_le (tp := tp) m2
      have hsn := tx_sn_gd hg (kd := 3) (lo := -9) (hi := -9) (Or.inl rfl) hmm (s2 := tx_ad n tp s1) l1 l2.2.1 rfl rfl
      have hgd := hg (tx_ad n tp s1) l2.2.1 m7
      refine H _ (tx_ad n tp s1) (tx_dp_c (by decide) hD) (by show p0 ≤ tx_en n tp s1.1; omega) l2.2.1 m7 ?_
      cases hr : g (tx_ad n tp s1) with
      | inl e =>
        rw [tx_lp_l c (tx_sn_l hr)] at hG
        exact hG
      | inr q =>
        obtain ⟨r2, s2⟩ := q
        rw [tx_lp_r c (tx_sn_r hr)] at hG
        rw [tx_sn_r hr] at hsn
        rw [hr] at hgd
        have g1' : tx_en n tp s1.1 < s2.1 := hgd.1
        exact tx_q_B3 (ih _ s0 _ (by show n < s2.1 + k; omega) (by show p0 ≤ s2.1; omega) (tx_md_of hsn) hG)
    · rw [tx_lp_n c] at hG
      exact hG
set_option maxRecDepth 100000 in
theorem tx_w_both (hb : ∀ j, j < n → tp j < 256) (hg : tx_G n g) (H : tx_W1 sc d Q mi0 n tp t s' i D p0 g) (hD : tx_dp K = D) (k1 : tx_nt K 1) (k2 : tx_nt K 2) (k3 : tx_nt K 3) (hp : p0 ≤ s.1) (hs : s.1 ≤ n) (hv : tx_va s) {P : Prop} (hP : tx_go (tx_FF Q mi0 t s' i) (tx_PB sc d Q mi0 n tp t s' i K) (g s) → P)
    (hG : tx_go (tx_FF Q mi0 t s' i) (tx_PC sc d Q mi0 n tp t s' i 109 K) (tx_both n tp g s)) : (n ≤ 60) → P := by
  intro hn
  have hgd := hg s hs hv
  unfold tx_both at hG
  apply hP
  cases hr : g s with
  | inl e => rw [hr] at hG; exact hG
  | inr q =>
    obtain ⟨r, s1⟩ := q
    rw [hr] at hG hgd
    have g1 : s.1 < s1.1 := hgd.1
    exact tx_q_B0 k1 k2 k3 (tx_w_bothl hb hg H hD 60 r s s1 (by omega) (by omega) (tx_md_of hgd) hG)
set_option maxRecDepth 100000 in
theorem tx_w_eithl (hb : ∀ j, j < n → tp j < 256) (hn : n ≤ 60) (hg : tx_G n g) (H : tx_W1 sc d Q mi0 n tp t s' i D p0 g) (hD : tx_dp K = D) : ∀ k r s0 s1, n < s1.1 + k → p0 ≤ s1.1 → tx_md n s0 r s1 → tx_go (tx_FF Q mi0 t s' i) (tx_PC sc d Q mi0 n tp t s' i 173 K) (tx_lp n tp 47 (tx_sn (tx_both n tp g) 4 (-9) (-9)) k r s1) → tx_PC sc d Q mi0 n tp t s' i 147 K r s1 := by
  have hbg := tx_both_gd (tp := tp) hg
  intro k
  induction k with
  | zero =>
    intro r s0 s1 hk hp hm hG
    have := hm.2.1
    omega
  | succ k ih =>
    intro r s0 s1 hk hp hm hG
    have hmm := hm
    obtain ⟨m1, m2, m3, m4, m5, m6, m7⟩ := hm
    refine tx_q_47 hb (fun c => ?_) (fun c => ?_)
    · have l1 := tx_en_lt (tp := tp) m2 (by omega)
      have l2 := tx_en_le (tp := tp) m2
      have hsn := tx_sn_gd hbg (kd := 4) (lo := -9) (hi := -9) (Or.inr (Or.inl rfl)) hmm (s2 := tx_ad n tp s1) l1 l2.2.1 rfl rfl
      have hgd := hbg (tx_ad n tp s1) l2.2.1 m7
      refine tx_w_both (K := (4, nI r, -9, -9) :: K) (s := tx_ad n tp s1) hb hg H (tx_dp_c (by decide) hD) (tx_nt_c (by decide)) (tx_nt_c (by decide)) (tx_nt_c (by decide)) (by show p0 ≤ tx_en n tp s1.1; omega) l2.2.1 m7 (H _ (tx_ad n tp s1) (tx_dp_c (by decide) hD) (by show p0 ≤ tx_en n tp s1.1; omega) l2.2.1 m7) ?_ hn
      cases hr : tx_both n tp g (tx_ad n tp s1) with
      | inl e =>
        rw [tx_lp_l c (tx_sn_l hr)] at hG
        exact hG
      | inr q =>
        obtain ⟨r2, s2⟩ := q
        rw [tx_lp_r c (tx_sn_r hr)] at hG
        rw [tx_sn_r hr] at hsn
        rw [hr] at hgd
        have g1' : tx_en n tp s1.1 < s2.1 := hgd.1
        exact tx_q_T4 (ih _ s0 _ (by show n < s2.1 + k; omega) (by show p0 ≤ s2.1; omega) (tx_md_of hsn) hG)
    · rw [tx_lp_n c] at hG
      exact hG
set_option maxRecDepth 100000 in
theorem tx_w_eith (hb : ∀ j, j < n → tp j < 256) (hn : n ≤ 60) (hg : tx_G n g) (H : tx_W1 sc d Q mi0 n tp t s' i D p0 g) (hD : tx_dp K = D) (k1 : tx_nt K 1) (k2 : tx_nt K 2) (k3 : tx_nt K 3) (k4 : tx_nt K 4) (hp : p0 ≤ s.1) (hs : s.1 ≤ n) (hv : tx_va s) {P : Prop} (hP : tx_go (tx_FF Q mi0 t s' i) (tx_PB sc d Q mi0 n tp t s' i K) (g s) → P)
    (hG : tx_go (tx_FF Q mi0 t s' i) (tx_PC sc d Q mi0 n tp t s' i 173 K) (tx_eith n tp g s)) : P := by
  have hgd := tx_both_gd (tp := tp) hg s hs hv
  unfold tx_eith at hG
  refine tx_w_both hb hg H hD k1 k2 k3 hp hs hv hP ?_ hn
  cases hr : tx_both n tp g s with
  | inl e => rw [hr] at hG; exact hG
  | inr q =>
    obtain ⟨r, s1⟩ := q
    rw [hr] at hG hgd
    have g1 : s.1 < s1.1 := hgd.1
    exact tx_q_N4 k4 (tx_w_eithl hb hn hg H hD 60 r s s1 (by omega) (by omega) (tx_md_of hgd) hG)
set_option maxRecDepth 100000 in
theorem tx_w_rowl (hb : ∀ j, j < n → tp j < 256) (hn : n ≤ 60) (hg : tx_G n g) (H : tx_W1 sc d Q mi0 n tp t s' i D p0 g) (H2 : tx_W2 sc d Q mi0 n tp t s' i D p0 g) (hD : tx_dp K = D) : ∀ k r s0 s1, n < s1.1 + k → p0 ≤ s1.1 → tx_md n s0 r s1 → tx_go (tx_FF Q mi0 t s' i) (tx_PC sc d Q mi0 n tp t s' i 262 K) (tx_lp n tp 59 (tx_then n tp g) k r s1) → tx_PC sc d Q mi0 n tp t s' i 245 K r s1 := by
  have heg := tx_eith_gd (tp := tp) hg
  intro k
  induction k with
  | zero =>
    intro r s0 s1 hk hp hm hG
    have := hm.2.1
    omega
  | succ k ih =>
    intro r s0 s1 hk hp hm hG
    by_cases c : tx_to n tp s1.1 = 59
    · have hth := tx_then_gd (tp := tp) hg hm (by omega)
      have m2 := hm.2.1
      have m7 := hm.2.2.2.2.2.2
      have l1 := tx_en_lt (tp := tp) m2 (by omega)
      have l2 := (tx_en_le (tp := tp) m2).2.1
      have l3 := (tx_en_le (tp := tp) l2).2.1
      have l4 := (tx_en_le (tp := tp) l3).2.1
      have l5 := (tx_en_le (tp := tp) l4).2.1
      have l6 := (tx_en_le (tp := tp) l5).2.1
      have o2 := tx_pl_le (tp := tp) l2
      have o3 := tx_pl_le (tp := tp) l3
      have o4 := tx_pl_le (tp := tp) l4
      have o5 := tx_pl_le (tp := tp) l5
      have r2 := tx_en_le (tp := tp) l2
      have r3 := tx_en_le (tp := tp) l3
      have r4 := tx_en_le (tp := tp) l4
      have r5 := tx_en_le (tp := tp) l5
      have hT : tx_go (tx_FF Q mi0 t s' i) (tx_PC sc d Q mi0 n tp t s' i 245 K) (tx_then n tp g r (tx_ad n tp s1)) := by
        cases hr : tx_then n tp g r (tx_ad n tp s1) with
        | inl e =>
          rw [tx_lp_l c hr] at hG
          exact hG
        | inr q =>
          obtain ⟨r2, s2⟩ := q
          rw [tx_lp_r c hr] at hG
          rw [hr] at hth
          -- s2 lies behind the ;
          have hlt : s1.1 < s2.1 := by
            unfold tx_then tx_span tx_sn at hr
            have key : ∀ (a : tx_S) (kd : Nat) (lo hi : Int32), s1.1 < a.1 → a.1 ≤ n → tx_va a → (match tx_eith n tp g a with | .inl e => (.inl e : tx_R) | .inr (r2, s2) => tx_mk kd (nI r) (nI r2) lo hi s2) = .inr (r2, s2) → s1.1 < s2.1 := by
              intro a kd lo hi a1 a2 a3 h
              have hgd := heg a a2 a3
              cases hq : tx_eith n tp g a with
              | inl e => rw [hq] at h; cases h
              | inr q =>
                obtain ⟨r3, s3⟩ := q
                rw [hq] at h hgd
                have g1 : a.1 < s3.1 := hgd.1
                have h' : tx_mk kd (nI r) (nI r3) lo hi s3 = .inr (r2, s2) := h
                rw [tx_mk_nx] at h'
                cases h'
                show s1.1 < s3.1
                omega
            split at hr
            · split at hr
              · split at hr
                · split at hr
                  · exact key _ 7 _ _ (by show s1.1 < tx_en n tp (tx_en n tp (tx_en n tp (tx_en n tp (tx_en n tp s1.1)))); omega) (by exact l6) (by exact m7) hr
                  · cases hr
                · cases hr
              · cases hr
            · exact key (tx_ad n tp s1) 6 (-9) (-9) l1 l2 m7 hr
          exact ih r2 s0 s2 (by omega) (by omega) (tx_md_of hth) hG
      have nt5 : ∀ (a lo hi : Int32) (w : Nat), ¬ 5 = w → tx_nt ((5, a, lo, hi) :: K) w := fun a lo hi w h => tx_nt_c h
      -- an armed one, from what stands behind the ;
      have arm : ∀ P : Prop, tx_then n tp g r (tx_ad n tp s1) = tx_sn (tx_eith n tp g) 6 (-9) (-9) r (tx_ad n tp s1) → (tx_go (tx_FF Q mi0 t s' i) (tx_PB sc d Q mi0 n tp t s' i ((5, nI r, -9, -9) :: K)) (g (tx_ad n tp s1)) → P) → P := by
        intro P he hP
        refine tx_w_eith (K := (5, nI r, -9, -9) :: K) (s := tx_ad n tp s1) hb hn hg H (tx_dp_c (by decide) hD) (nt5 _ _ _ 1 (by decide)) (nt5 _ _ _ 2 (by decide)) (nt5 _ _ _ 3 (by decide)) (nt5 _ _ _ 4 (by decide)) (by show p0 ≤ tx_en n tp s1.1; omega) l2 m7 hP ?_
        rw [he] at hT
        cases hr : tx_eith n tp g (tx_ad n tp s1) with
        | inl e => rw [tx_sn_l hr] at hT; exact hT
        | inr q =>
          obtain ⟨r2, s2⟩ := q
          rw [tx_sn_r hr] at hT
          exact tx_q_T5 (kd := 6) (by decide) hT
      refine tx_q_59 hb c rfl rfl rfl rfl (fun q => ?_) (fun q q' q'' => ?_) (fun q q' q'' => ?_) (fun q q' q'' => ?_) (fun q q' q'' => ?_) (fun q q' q'' q3 => ?_) (fun q q' q'' q3 => ?_)
      · refine arm _ ?_ (H _ (tx_ad n tp s1) (tx_dp_c (by decide) hD) (by show p0 ≤ tx_en n tp s1.1; omega) l2 m7)
        unfold tx_then
        rw [if_neg (fun z => q z.1)]
      · refine (arm _ ?_ (H2 ((5, nI r, -9, -9) :: K) (tx_ad n tp s1) (tx_dp_c (by decide) hD) (by show p0 ≤ tx_en n tp s1.1; omega) l2 m7 q q')).1 (by rw [← hD]; exact q'')
        unfold tx_then
        rw [if_neg (fun z => z.2 q')]
      · refine (arm _ ?_ (H2 ((5, nI r, -9, -9) :: K) (tx_ad n tp s1) (tx_dp_c (by decide) hD) (by show p0 ≤ tx_en n tp s1.1; omega) l2 m7 q q')).2 (by rw [← hD]; exact q'')
        unfold tx_then
        rw [if_neg (fun z => z.2 q')]
      · unfold tx_then tx_span at hT
        rw [if_pos ⟨q, q'⟩, if_neg q''] at hT
        exact hT
      · unfold tx_then tx_span at hT
        rw [if_pos ⟨q, fun z => by have z' : tx_to n tp (tx_ad n tp (tx_ad n tp s1)).1 = 42 := z; omega⟩, if_pos q', if_neg q''] at hT
        exact hT
      · unfold tx_then tx_span at hT
        rw [if_pos ⟨q, fun z => by have z' : tx_to n tp (tx_ad n tp (tx_ad n tp s1)).1 = 42 := z; omega⟩, if_pos q', if_pos q'', if_neg (show ¬ tx_to n tp (tx_ad n tp (tx_ad n tp (tx_ad n tp (tx_ad n tp s1)))).1 = 58 from q3)] at hT
        exact hT
      · unfold tx_then tx_span at hT
        rw [if_pos ⟨q, fun z => by have z' : tx_to n tp (tx_ad n tp (tx_ad n tp s1)).1 = 42 := z; omega⟩, if_pos q', if_pos q'', if_pos (show tx_to n tp (tx_ad n tp (tx_ad n tp (tx_ad n tp (tx_ad n tp s1)))).1 = 58 from q3)] at hT
        have nu := tx_nu_ok q hb
        have v5 : tx_va (tx_ad n tp (tx_ad n tp ((tx_ad n tp (tx_ad n tp (tx_ad n tp s1))).1, (tx_ad n tp (tx_ad n tp (tx_ad n tp s1))).2.1, (tx_ad n tp (tx_ad n tp (tx_ad n tp s1))).2.2.1, tx_sp n tp (tx_ad n tp s1) (tx_ad n tp (tx_ad n tp (tx_ad n tp s1)))))) := m7
        have u5 : (tx_ad n tp (tx_ad n tp ((tx_ad n tp (tx_ad n tp (tx_ad n tp s1))).1, (tx_ad n tp (tx_ad n tp (tx_ad n tp s1))).2.1, (tx_ad n tp (tx_ad n tp (tx_ad n tp s1))).2.2.1, tx_sp n tp (tx_ad n tp s1) (tx_ad n tp (tx_ad n tp (tx_ad n tp s1)))))).1 ≤ n := l6
        have u6 : p0 ≤ (tx_ad n tp (tx_ad n tp ((tx_ad n tp (tx_ad n tp (tx_ad n tp s1))).1, (tx_ad n tp (tx_ad n tp (tx_ad n tp s1))).2.1, (tx_ad n tp (tx_ad n tp (tx_ad n tp s1))).2.2.1, tx_sp n tp (tx_ad n tp s1) (tx_ad n tp (tx_ad n tp (tx_ad n tp s1)))))).1 := by show p0 ≤ tx_en n tp (tx_en n tp (tx_en n tp (tx_en n tp (tx_en n tp s1.1)))); omega
        refine tx_w_eith (K := ((5, nI r, nI (tx_nu n tp (tx_ad n tp s1).1), nI (tx_nu n tp (tx_ad n tp (tx_ad n tp (tx_ad n tp s1))).1)) :: K)) (s := (tx_ad n tp (tx_ad n tp ((tx_ad n tp (tx_ad n tp (tx_ad n tp s1))).1, (tx_ad n tp (tx_ad n tp (tx_ad n tp s1))).2.1, (tx_ad n tp (tx_ad n tp (tx_ad n tp s1))).2.2.1, tx_sp n tp (tx_ad n tp s1) (tx_ad n tp (tx_ad n tp (tx_ad n tp s1))))))) hb hn hg H (tx_dp_c (by decide) hD) (nt5 _ _ _ 1 (by decide)) (nt5 _ _ _ 2 (by decide)) (nt5 _ _ _ 3 (by decide)) (nt5 _ _ _ 4 (by decide)) u6 u5 v5 (H ((5, nI r, nI (tx_nu n tp (tx_ad n tp s1).1), nI (tx_nu n tp (tx_ad n tp (tx_ad n tp (tx_ad n tp s1))).1)) :: K) (tx_ad n tp (tx_ad n tp ((tx_ad n tp (tx_ad n tp (tx_ad n tp s1))).1, (tx_ad n tp (tx_ad n tp (tx_ad n tp s1))).2.1, (tx_ad n tp (tx_ad n tp (tx_ad n tp s1))).2.2.1, tx_sp n tp (tx_ad n tp s1) (tx_ad n tp (tx_ad n tp (tx_ad n tp s1)))))) (tx_dp_c (by decide) hD) u6 u5 v5) ?_
        have hT' : tx_go (tx_FF Q mi0 t s' i) (tx_PC sc d Q mi0 n tp t s' i 245 K) (tx_sn (tx_eith n tp g) 7 (nI (tx_nu n tp (tx_ad n tp s1).1)) (nI (tx_nu n tp (tx_ad n tp (tx_ad n tp (tx_ad n tp s1))).1)) r (tx_ad n tp (tx_ad n tp ((tx_ad n tp (tx_ad n tp (tx_ad n tp s1))).1, (tx_ad n tp (tx_ad n tp (tx_ad n tp s1))).2.1, (tx_ad n tp (tx_ad n tp (tx_ad n tp s1))).2.2.1, tx_sp n tp (tx_ad n tp s1) (tx_ad n tp (tx_ad n tp (tx_ad n tp s1))))))) := hT
        cases hr : tx_eith n tp g (tx_ad n tp (tx_ad n tp ((tx_ad n tp (tx_ad n tp (tx_ad n tp s1))).1, (tx_ad n tp (tx_ad n tp (tx_ad n tp s1))).2.1, (tx_ad n tp (tx_ad n tp (tx_ad n tp s1))).2.2.1, tx_sp n tp (tx_ad n tp s1) (tx_ad n tp (tx_ad n tp (tx_ad n tp s1)))))) with
        | inl e => rw [tx_sn_l hr] at hT'; exact hT'
        | inr q =>
          obtain ⟨r2, s2⟩ := q
          rw [tx_sn_r hr] at hT'
          exact tx_q_T5 (kd := 7) (by rw [if_neg (tx_nI9 (by omega))]) hT'
    · rw [tx_lp_n c] at hG
      exact tx_q_59n hb c hG
set_option maxRecDepth 100000 in
theorem tx_w_row (hb : ∀ j, j < n → tp j < 256) (hn : n ≤ 60) (hg : tx_G n g) (H : tx_W1 sc d Q mi0 n tp t s' i D p0 g) (H2 : tx_W2 sc d Q mi0 n tp t s' i D p0 g) (hD : tx_dp K = D) (k1 : tx_nt K 1) (k2 : tx_nt K 2) (k3 : tx_nt K 3) (k4 : tx_nt K 4) (k5 : tx_nt K 5) (hp : p0 ≤ s.1) (hs : s.1 ≤ n) (hv : tx_va s)
    (hG : tx_go (tx_FF Q mi0 t s' i) (tx_PC sc d Q mi0 n tp t s' i 262 K) (tx_row n tp g s)) : tx_PA sc d Q mi0 n tp t s' i K s := by
  have hgd := tx_eith_gd (tp := tp) hg s hs hv
  unfold tx_row at hG
  refine tx_w_eith hb hn hg H hD k1 k2 k3 k4 hp hs hv (H K s hD hp hs hv) ?_
  cases hr : tx_eith n tp g s with
  | inl e => rw [hr] at hG; exact hG
  | inr q =>
    obtain ⟨r, s1⟩ := q
    rw [hr] at hG hgd
    have g1 : s.1 < s1.1 := hgd.1
    exact tx_q_N5 k5 (tx_w_rowl hb hn hg H H2 hD 60 r s s1 (by omega) (by omega) (tx_md_of hgd) hG)
end tw_walk
