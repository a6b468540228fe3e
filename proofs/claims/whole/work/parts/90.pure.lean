/-! the law's run of the small machine ends with 1 -/
set_option maxRecDepth 100000 in
theorem tw_pure (sc : Nat × (Nat → Int32)) (h : sc.1 ≤ 3072) : tw_E sc 1000 174 0 [some (.retAddr 0), none, none, none] [] (0, 0, fun _ => (99, 0)) (fun _ _ => 0) (fun _ _ => none) (fun v g _ _ => v = some (.int 1) ∧ g.1 ≤ 600000 ∧ g.2.1 ≤ 7302250) := by
  have z := tw_l_loop (sc := sc) (D := 600) (Q := fun v g _ _ => v = some (.int 1) ∧ g.1 ≤ 600000 ∧ g.2.1 ≤ 7302250) h (fun _ _ => ⟨rfl, by decide, by decide⟩) 600 0 tw_i0 tw_w0 1 63 63 (by omega) (by omega) ⟨Or.inl ⟨rfl, rfl⟩, tw_w0_V, tw_w0_C, tw_w0_M⟩
  exact tw_l_start (sc := sc) (D := 996) z
