/-! the text's pure descent -/
/-- a place of the text, nodes so far (how many, which), the place of a wrong span (-9: none) -/
abbrev tx_S : Type := Nat × Nat × (Nat → tw_Nd) × Int32
/-- a fault's place, or a node and what is behind it -/
abbrev tx_R : Type := Nat ⊕ (Nat × tx_S)
def tx_mk (kd : Nat) (a b lo hi : Int32) (s : tx_S) : tx_R := .inr (s.2.1, (s.1, s.2.1 + 1, tw_st s.2.2.1 s.2.1 (kd, a, b, lo, hi), s.2.2.2))
section tx_desc
variable (n : Nat) (tp : Nat → Nat)
def tx_ad (s : tx_S) : tx_S := (tx_en n tp s.1, s.2)
/-- first, then as often as c follows: another by g, and both are one node -/
def tx_lp (c : Nat) (h : Nat → tx_S → tx_R) : Nat → Nat → tx_S → tx_R
  | 0, r, s => .inr (r, s)
  | k + 1, r, s => if tx_to n tp s.1 = c then (match h r (tx_ad n tp s) with
      | .inl e => .inl e
      | .inr (r2, s2) => tx_lp c h k r2 s2) else .inr (r, s)
/-- g, and a node of kind kd out of r and it -/
def tx_sn (g : tx_S → tx_R) (kd : Nat) (lo hi : Int32) (r : Nat) (s : tx_S) : tx_R :=
  match g s with
  | .inl e => .inl e
  | .inr (r2, s2) => tx_mk kd (nI r) (nI r2) lo hi s2
def tx_both (g : tx_S → tx_R) (s : tx_S) : tx_R :=
  match g s with
  | .inl e => .inl e
  | .inr (r, s1) => tx_lp n tp 38 (tx_sn g 3 (-9) (-9)) 60 r s1
def tx_eith (g : tx_S → tx_R) (s : tx_S) : tx_R :=
  match tx_both n tp g s with
  | .inl e => .inl e
  | .inr (r, s1) => tx_lp n tp 47 (tx_sn (tx_both n tp g) 4 (-9) (-9)) 60 r s1
/-- a span, and what it leads to -/
def tx_span (g : tx_S → tx_R) (r : Nat) (s : tx_S) : tx_R :=
  if tx_to n tp (tx_ad n tp s).1 = 44 then
    (if tx_to n tp (tx_ad n tp (tx_ad n tp s)).1 = 256 then
      (if tx_to n tp (tx_ad n tp (tx_ad n tp (tx_ad n tp s))).1 = 58 then
        tx_sn g 7 (nI (tx_nu n tp s.1)) (nI (tx_nu n tp (tx_ad n tp (tx_ad n tp s)).1)) r ((tx_ad n tp (tx_ad n tp (tx_ad n tp (tx_ad n tp s)))).1, s.2.1, s.2.2.1, if tx_nu n tp (tx_ad n tp (tx_ad n tp s)).1 < tx_nu n tp s.1 ∧ s.2.2.2 = -9 then nI (tx_pl n tp (tx_ad n tp (tx_ad n tp s)).1) else s.2.2.2)
      else .inl (tx_pl n tp (tx_ad n tp (tx_ad n tp (tx_ad n tp s))).1))
    else .inl (tx_pl n tp (tx_ad n tp (tx_ad n tp s)).1))
  else .inl (tx_pl n tp (tx_ad n tp s).1)
/-- behind a ; -/
def tx_then (g : tx_S → tx_R) (r : Nat) (s : tx_S) : tx_R :=
  if tx_to n tp s.1 = 256 ∧ ¬ tx_to n tp (tx_en n tp s.1) = 42 then tx_span n tp (tx_eith n tp g) r s else tx_sn (tx_eith n tp g) 6 (-9) (-9) r s
def tx_row (g : tx_S → tx_R) (s : tx_S) : tx_R :=
  match tx_eith n tp g s with
  | .inl e => .inl e
  | .inr (r, s1) => tx_lp n tp 59 (tx_then n tp g) 60 r s1
def tx_wire (s : tx_S) : tx_R :=
  if tx_to n tp (tx_en n tp s.1) = 43 then tx_mk 1 (nI (tx_to n tp s.1 - 97)) 0 (-9) (-9) (tx_ad n tp (tx_ad n tp s))
  else if tx_to n tp (tx_en n tp s.1) = 45 then tx_mk 1 (nI (tx_to n tp s.1 - 97)) 1 (-9) (-9) (tx_ad n tp (tx_ad n tp s))
  else if tx_to n tp (tx_en n tp s.1) = 126 then tx_mk 1 (nI (tx_to n tp s.1 - 97)) 2 (-9) (-9) (tx_ad n tp (tx_ad n tp s))
  else tx_mk 0 (nI (tx_to n tp s.1 - 97)) (-9) (-9) (-9) (tx_ad n tp s)
def tx_one : Nat → Nat → tx_S → tx_R
  | 0, _, _ => .inl 0
  | f + 1, d, s =>
    if 97 ≤ tx_to n tp s.1 ∧ tx_to n tp s.1 ≤ 112 then tx_wire n tp s
    else if 10 ≤ d then .inl (tx_pl n tp s.1)
    else if tx_to n tp s.1 = 256 then (if tx_to n tp (tx_en n tp s.1) = 42 then (match tx_one f (d + 1) (tx_ad n tp (tx_ad n tp s)) with
      | .inl e => .inl e
      | .inr (r, s2) => tx_mk 5 (nI r) (-9) (nI (tx_nu n tp s.1)) (-9) s2) else .inl (tx_pl n tp (tx_en n tp s.1)))
    else if tx_to n tp s.1 = 33 then (match tx_one f (d + 1) (tx_ad n tp s) with
      | .inl e => .inl e
      | .inr (r, s2) => tx_mk 2 (nI r) (-9) (-9) (-9) s2)
    else if tx_to n tp s.1 = 40 then (match tx_row n tp (tx_one f (d + 1)) (tx_ad n tp s) with
      | .inl e => .inl e
      | .inr (r, s2) => if tx_to n tp s2.1 = 41 then .inr (r, tx_ad n tp s2) else .inl (tx_pl n tp s2.1))
    else .inl (tx_pl n tp s.1)
/-- the whole text -/
def tx_read : tx_R :=
  match tx_row n tp (tx_one n tp 62 0) (0, 0, fun _ => (0, 0, 0, 0, 0), -9) with
  | .inl e => .inl e
  | .inr (r, s) => if tx_to n tp s.1 = 257 then .inr (r, s) else .inl (tx_pl n tp s.1)
end tx_desc
