/-! the tape -/
theorem tw_p_size (sc : Nat × (Nat → Int32)) {d : Nat} {mi : tw_I} {mr : tw_Q} {Q : Option Value → tw_G → tw_I → tw_Q → Prop} : tw_E sc (d + 1) 61 0 [some (.ref 125)] [] tw_g0 mi mr Q = Q (some (.int (mi 125 1))) tw_g0 mi mr := by
  simp only [tz_61_0, tz_61_1, tz_61_4, tk_125, tq_125_0, tw_va_s, tw_va_n, tw_K_s, tw_K_n, and_true, true_and]
theorem tw_p_cut (sc : Nat × (Nat → Int32)) {d t s i : Nat} {mi : tw_I} {Q : Option Value → tw_G → tw_I → tw_Q → Prop} : tw_E sc (d + 2) 2 0 [some (.ref 0), none] [] tw_g0 mi (tw_r0 t s i) Q = Q (some (.int (mi 125 1))) tw_g0 (tw_st mi 125 (tw_st (mi 125) 1 0)) (tw_r0 t s i) := by
  simp only [tz_2_0, tz_2_1, tz_2_4, tz_2_7, tz_2_8, tz_2_9, tz_2_12, tz_2_15, tz_2_16, tz_61_0, tz_61_1, tz_61_4, tz_60_0, tz_60_1, tz_60_2, tz_60_5, tk_0, tq_0_0, tq_0_1, tq_0_2, tq_0_3, tq_0_4, tq_0_5, tq_0_6, tq_t, tq_s, tk_125, tq_125_0, tw_va_s, tw_va_n, tw_K_s, tw_K_n, and_true, true_and]
