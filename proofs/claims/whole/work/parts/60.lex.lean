/-! tokens: the class's -/
def tx_dg (c : Nat) : Prop := 48 ≤ c ∧ c ≤ 57
def tx_isd (n : Nat) (tp : Nat → Nat) (j : Nat) : Bool := decide (j < n ∧ 48 ≤ tp j ∧ tp j ≤ 57)
def tx_sk (n : Nat) (tp : Nat → Nat) : Nat → Nat → Nat
  | 0, j => j
  | f + 1, j => if j < n ∧ tp j = 32 then tx_sk n tp f (j + 1) else j
/-- the end of a run of digits -/
def tx_rl (n : Nat) (tp : Nat → Nat) : Nat → Nat → Nat
  | 0, j => j
  | f + 1, j => if tx_isd n tp j then tx_rl n tp f (j + 1) else j
/-- its number, at most 1000 -/
def tx_nc (n : Nat) (tp : Nat → Nat) : Nat → Nat → Nat → Nat
  | 0, _, v => v
  | f + 1, j, v => if tx_isd n tp j then tx_nc n tp f (j + 1) (min (10 * v + (tp j - 48)) 1000) else v
def tx_pl (n : Nat) (tp : Nat → Nat) (p : Nat) : Nat := tx_sk n tp 60 p
def tx_nu (n : Nat) (tp : Nat → Nat) (p : Nat) : Nat := tx_nc n tp 60 (tx_pl n tp p) 0
def tx_en (n : Nat) (tp : Nat → Nat) (p : Nat) : Nat := if tx_pl n tp p < n then (if tx_isd n tp (tx_pl n tp p) then tx_rl n tp 60 (tx_pl n tp p) else tx_pl n tp p + 1) else tx_pl n tp p
def tx_to (n : Nat) (tp : Nat → Nat) (p : Nat) : Nat :=
  if tx_pl n tp p < n then (if tx_isd n tp (tx_pl n tp p) then (if tx_rl n tp 60 (tx_pl n tp p) - tx_pl n tp p ≤ 3 ∧ 1 ≤ tx_nu n tp p ∧ tx_nu n tp p ≤ 999 then 256 else 258) else tp (tx_pl n tp p)) else 257
section tw_lexp
variable {n : Nat} {tp : Nat → Nat}
set_option maxRecDepth 100000 in
theorem tx_sk_le : ∀ f j, j ≤ n → j ≤ tx_sk n tp f j ∧ tx_sk n tp f j ≤ n := by
  intro f
  induction f with
  | zero => intro j h; exact ⟨Nat.le_refl _, h⟩
  | succ f ih =>
    intro j h
    rw [tx_sk]
    by_cases c : j < n ∧ tp j = 32
    · rw [if_pos c]
      have := ih (j + 1) (by omega)
      omega
    · rw [if_neg c]; exact ⟨Nat.le_refl _, h⟩
set_option maxRecDepth 100000 in
theorem tx_rl_le : ∀ f j, j ≤ n → j ≤ tx_rl n tp f j ∧ tx_rl n tp f j ≤ n := by
  intro f
  induction f with
  | zero => intro j h; exact ⟨Nat.le_refl _, h⟩
  | succ f ih =>
    intro j h
    rw [tx_rl]
    by_cases c : tx_isd n tp j = true
    · rw [if_pos c]
      have c2 : j < n ∧ 48 ≤ tp j ∧ tp j ≤ 57 := of_decide_eq_true c
      have := ih (j + 1) (by omega)
      omega
    · rw [if_neg c]; exact ⟨Nat.le_refl _, h⟩
set_option maxRecDepth 100000 in
theorem tx_nc_le : ∀ f j v, v ≤ 1000 → tx_nc n tp f j v ≤ 1000 := by
  intro f
  induction f with
  | zero => intro j v h; exact h
  | succ f ih =>
    intro j v h
    rw [tx_nc]
    by_cases c : tx_isd n tp j = true
    · rw [if_pos c]; exact ih _ _ (Nat.min_le_right _ _)
    · rw [if_neg c]; exact h
set_option maxRecDepth 100000 in
theorem tx_pl_le {p : Nat} (h : p ≤ n) : p ≤ tx_pl n tp p ∧ tx_pl n tp p ≤ n := tx_sk_le 60 p h
set_option maxRecDepth 100000 in
theorem tx_en_le {p : Nat} (h : p ≤ n) : tx_pl n tp p ≤ tx_en n tp p ∧ tx_en n tp p ≤ n ∧ (tx_pl n tp p < n → tx_pl n tp p < tx_en n tp p) := by
  have h1 := tx_pl_le (tp := tp) h
  unfold tx_en
  by_cases c : tx_pl n tp p < n
  · rw [if_pos c]
    by_cases c2 : tx_isd n tp (tx_pl n tp p) = true
    · rw [if_pos c2]
      have h2 := tx_rl_le (n := n) (tp := tp) 59 (tx_pl n tp p + 1) (by omega)
      have e : tx_rl n tp 60 (tx_pl n tp p) = tx_rl n tp 59 (tx_pl n tp p + 1) := by rw [tx_rl, if_pos c2]
      rw [e]
      omega
    · rw [if_neg c2]; omega
  · rw [if_neg c]; omega
end tw_lexp
