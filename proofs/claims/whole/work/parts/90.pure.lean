theorem tw_pure (sc : Nat × (Nat → Int32)) (h : sc.1 ≤ 3072) : tw_E sc 1000 174 0 [some (.retAddr 0), none, none, none] [] (0, 0, fun _ => (99, 0)) (fun _ _ => 0) (fun _ _ => none) (fun v g _ _ => v = some (.int 1) ∧ g.1 ≤ 600000 ∧ g.2.1 ≤ 7302250) := by
  sorry
