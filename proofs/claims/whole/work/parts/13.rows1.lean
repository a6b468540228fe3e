/-! a row for each instruction: printed by wip/whole/gen3.py -/
-- 27: Tl_lastSample
section tz_27
variable {sc : Nat × (Nat → Int32)} {d : Nat} {x0 : Option Value} {st : List Value} {g : tw_G} {mi : tw_I} {mr : tw_Q} {Q : Option Value → tw_G → tw_I → tw_Q → Prop} {v w u : Int32} {a b : Nat} {j h : Int64} {s1 s2 s3 s4 : Value}
theorem td_27_0 : decode (tw_cd 27) 0 = .ok (.aload_n 0, 1) := by decide +kernel
theorem tz_27_0 : tw_E sc d 27 0 [some (.ref a)] st g mi mr Q = tw_E sc d 27 1 [some (.ref a)] (.ref a :: st) g mi mr Q := tw_x_aload_n td_27_0 rfl
theorem td_27_1 : decode (tw_cd 27) 1 = .ok (.getfield 38, 3) := by decide +kernel
theorem tz_27_1 : tw_E sc d 27 1 [x0] (.ref a :: st) g mi mr Q = (tw_kd g a = 0 ∧ tw_E sc d 27 4 [x0] (va_rf (mr a 2) :: st) g mi mr Q) := tw_x_getr td_27_1 to_27 tf_0_38 (trf_0_2)
theorem td_27_4 : decode (tw_cd 27) 4 = .ok (.aload_n 0, 1) := by decide +kernel
theorem tz_27_4 : tw_E sc d 27 4 [some (.ref a)] st g mi mr Q = tw_E sc d 27 5 [some (.ref a)] (.ref a :: st) g mi mr Q := tw_x_aload_n td_27_4 rfl
theorem td_27_5 : decode (tw_cd 27) 5 = .ok (.getfield 38, 3) := by decide +kernel
theorem tz_27_5 : tw_E sc d 27 5 [x0] (.ref a :: st) g mi mr Q = (tw_kd g a = 0 ∧ tw_E sc d 27 8 [x0] (va_rf (mr a 2) :: st) g mi mr Q) := tw_x_getr td_27_5 to_27 tf_0_38 (trf_0_2)
theorem td_27_8 : decode (tw_cd 27) 8 = .ok (.invokevirtual 115, 3) := by decide +kernel
theorem tz_27_8 : tw_E sc (d + 1) 27 8 [x0] ([.ref a, s1]) g mi mr Q = (tw_kd g a = 5 ∧ tw_E sc d 90 0 [some (.ref a)] [] g mi mr (tw_K sc (d + 1) 27 11 [x0] [s1] Q)) := tw_x_cv (as := []) (r := [s1]) td_27_8 to_27 tc_0_115 to_90 rfl rfl rfl rfl
theorem td_27_11 : decode (tw_cd 27) 11 = .ok (.iconst 1, 1) := by decide +kernel
theorem tz_27_11 : tw_E sc d 27 11 [x0] st g mi mr Q = tw_E sc d 27 12 [x0] (.int 1 :: st) g mi mr Q := tw_x_iconst td_27_11 (by decide)
theorem td_27_12 : decode (tw_cd 27) 12 = .ok (.isub, 1) := by decide +kernel
theorem tz_27_12 : tw_E sc d 27 12 [x0] (.int w :: .int v :: st) g mi mr Q = tw_E sc d 27 13 [x0] (.int (v - w) :: st) g mi mr Q := tw_x_isub td_27_12
theorem td_27_13 : decode (tw_cd 27) 13 = .ok (.invokevirtual 139, 3) := by decide +kernel
theorem tz_27_13 {a0 : Int32} : tw_E sc (d + 1) 27 13 [x0] ([.int a0, .ref a]) g mi mr Q = (tw_kd g a = 5 ∧ tw_E sc d 95 0 [some (.ref a), some (.int a0)] [] g mi mr (tw_K sc (d + 1) 27 16 [x0] [] Q)) := tw_x_cv (as := [.int a0]) (r := []) td_27_13 to_27 tc_0_139 to_95 rfl rfl rfl rfl
theorem td_27_16 : decode (tw_cd 27) 16 = .ok (.iconst 0, 1) := by decide +kernel
theorem tz_27_16 : tw_E sc d 27 16 [x0] st g mi mr Q = tw_E sc d 27 17 [x0] (.int 0 :: st) g mi mr Q := tw_x_iconst td_27_16 (by decide)
theorem td_27_17 : decode (tw_cd 27) 17 = .ok (.invokestatic 148, 3) := by decide +kernel
theorem tz_27_17 : tw_E sc (d + 1) 27 17 [x0] (.int w :: .int v :: []) g mi mr Q = tw_E sc (d + 1) 27 20 [x0] (.int (if v < w then w else v) :: []) g mi mr Q := tw_x_max td_27_17 to_27 tm_0_148 (by simp)
theorem td_27_20 : decode (tw_cd 27) 20 = .ok (.ireturn, 1) := by decide +kernel
theorem tz_27_20 : tw_E sc d 27 20 [x0] ([.int v]) g mi mr Q = Q (some (.int v)) g mi mr := tw_x_iret td_27_20 tr_27
end tz_27
-- 28: Tl_take
section tz_28
variable {sc : Nat × (Nat → Int32)} {d : Nat} {x0 x1 x2 x3 x4 x5 x6 : Option Value} {st : List Value} {g : tw_G} {mi : tw_I} {mr : tw_Q} {Q : Option Value → tw_G → tw_I → tw_Q → Prop} {v w u : Int32} {a b : Nat} {j h : Int64} {s1 s2 s3 s4 : Value}
theorem td_28_0 : decode (tw_cd 28) 0 = .ok (.iconst 0, 1) := by decide +kernel
theorem tz_28_0 : tw_E sc d 28 0 [x0, x1, x2, x3, x4, x5, x6] st g mi mr Q = tw_E sc d 28 1 [x0, x1, x2, x3, x4, x5, x6] (.int 0 :: st) g mi mr Q := tw_x_iconst td_28_0 (by decide)
theorem td_28_1 : decode (tw_cd 28) 1 = .ok (.istore_n 3, 1) := by decide +kernel
theorem tz_28_1 : tw_E sc d 28 1 [x0, x1, x2, x3, x4, x5, x6] (.int v :: st) g mi mr Q = tw_E sc d 28 2 [x0, x1, x2, some (.int v), x4, x5, x6] st g mi mr Q := tw_x_istore_n td_28_1 tp_28 rfl
theorem td_28_2 : decode (tw_cd 28) 2 = .ok (.iconst 0, 1) := by decide +kernel
theorem tz_28_2 : tw_E sc d 28 2 [x0, x1, x2, x3, x4, x5, x6] st g mi mr Q = tw_E sc d 28 3 [x0, x1, x2, x3, x4, x5, x6] (.int 0 :: st) g mi mr Q := tw_x_iconst td_28_2 (by decide)
theorem td_28_3 : decode (tw_cd 28) 3 = .ok (.istore 4, 2) := by decide +kernel
theorem tz_28_3 : tw_E sc d 28 3 [x0, x1, x2, x3, x4, x5, x6] (.int v :: st) g mi mr Q = tw_E sc d 28 5 [x0, x1, x2, x3, some (.int v), x5, x6] st g mi mr Q := tw_x_istore td_28_3 tp_28 rfl
theorem td_28_5 : decode (tw_cd 28) 5 = .ok (.iload 4, 2) := by decide +kernel
theorem tz_28_5 : tw_E sc d 28 5 [x0, x1, x2, x3, some (.int v), x5, x6] st g mi mr Q = tw_E sc d 28 7 [x0, x1, x2, x3, some (.int v), x5, x6] (.int v :: st) g mi mr Q := tw_x_iload td_28_5 rfl
theorem td_28_7 : decode (tw_cd 28) 7 = .ok (.iload_n 2, 1) := by decide +kernel
theorem tz_28_7 : tw_E sc d 28 7 [x0, x1, some (.int v), x3, x4, x5, x6] st g mi mr Q = tw_E sc d 28 8 [x0, x1, some (.int v), x3, x4, x5, x6] (.int v :: st) g mi mr Q := tw_x_iload_n td_28_7 rfl
theorem td_28_8 : decode (tw_cd 28) 8 = .ok (.if_icmp .ge 59, 3) := by decide +kernel
theorem tz_28_8 : tw_E sc d 28 8 [x0, x1, x2, x3, x4, x5, x6] (.int w :: .int v :: st) g mi mr Q = if w ≤ v then tw_E sc d 28 67 [x0, x1, x2, x3, x4, x5, x6] st g mi mr Q else tw_E sc d 28 11 [x0, x1, x2, x3, x4, x5, x6] st g mi mr Q := tw_x_ic_ge td_28_8 (by decide)
theorem td_28_11 : decode (tw_cd 28) 11 = .ok (.aload_n 0, 1) := by decide +kernel
theorem tz_28_11 : tw_E sc d 28 11 [some (.ref a), x1, x2, x3, x4, x5, x6] st g mi mr Q = tw_E sc d 28 12 [some (.ref a), x1, x2, x3, x4, x5, x6] (.ref a :: st) g mi mr Q := tw_x_aload_n td_28_11 rfl
theorem td_28_12 : decode (tw_cd 28) 12 = .ok (.getfield 38, 3) := by decide +kernel
theorem tz_28_12 : tw_E sc d 28 12 [x0, x1, x2, x3, x4, x5, x6] (.ref a :: st) g mi mr Q = (tw_kd g a = 0 ∧ tw_E sc d 28 15 [x0, x1, x2, x3, x4, x5, x6] (va_rf (mr a 2) :: st) g mi mr Q) := tw_x_getr td_28_12 to_28 tf_0_38 (trf_0_2)
theorem td_28_15 : decode (tw_cd 28) 15 = .ok (.invokevirtual 115, 3) := by decide +kernel
theorem tz_28_15 : tw_E sc (d + 1) 28 15 [x0, x1, x2, x3, x4, x5, x6] ([.ref a]) g mi mr Q = (tw_kd g a = 5 ∧ tw_E sc d 90 0 [some (.ref a)] [] g mi mr (tw_K sc (d + 1) 28 18 [x0, x1, x2, x3, x4, x5, x6] [] Q)) := tw_x_cv (as := []) (r := []) td_28_15 to_28 tc_0_115 to_90 rfl rfl rfl rfl
theorem td_28_18 : decode (tw_cd 28) 18 = .ok (.istore 5, 2) := by decide +kernel
theorem tz_28_18 : tw_E sc d 28 18 [x0, x1, x2, x3, x4, x5, x6] (.int v :: st) g mi mr Q = tw_E sc d 28 20 [x0, x1, x2, x3, x4, some (.int v), x6] st g mi mr Q := tw_x_istore td_28_18 tp_28 rfl
theorem td_28_20 : decode (tw_cd 28) 20 = .ok (.aload_n 0, 1) := by decide +kernel
theorem tz_28_20 : tw_E sc d 28 20 [some (.ref a), x1, x2, x3, x4, x5, x6] st g mi mr Q = tw_E sc d 28 21 [some (.ref a), x1, x2, x3, x4, x5, x6] (.ref a :: st) g mi mr Q := tw_x_aload_n td_28_20 rfl
theorem td_28_21 : decode (tw_cd 28) 21 = .ok (.getfield 12, 3) := by decide +kernel
theorem tz_28_21 : tw_E sc d 28 21 [x0, x1, x2, x3, x4, x5, x6] (.ref a :: st) g mi mr Q = (tw_kd g a = 0 ∧ tw_E sc d 28 24 [x0, x1, x2, x3, x4, x5, x6] (va_rf (mr a 7) :: st) g mi mr Q) := tw_x_getr td_28_21 to_28 tf_0_12 (trf_0_7)
theorem td_28_24 : decode (tw_cd 28) 24 = .ok (.iload 5, 2) := by decide +kernel
theorem tz_28_24 : tw_E sc d 28 24 [x0, x1, x2, x3, x4, some (.int v), x6] st g mi mr Q = tw_E sc d 28 26 [x0, x1, x2, x3, x4, some (.int v), x6] (.int v :: st) g mi mr Q := tw_x_iload td_28_24 rfl
theorem td_28_26 : decode (tw_cd 28) 26 = .ok (.aload_n 0, 1) := by decide +kernel
theorem tz_28_26 : tw_E sc d 28 26 [some (.ref a), x1, x2, x3, x4, x5, x6] st g mi mr Q = tw_E sc d 28 27 [some (.ref a), x1, x2, x3, x4, x5, x6] (.ref a :: st) g mi mr Q := tw_x_aload_n td_28_26 rfl
theorem td_28_27 : decode (tw_cd 28) 27 = .ok (.getfield 38, 3) := by decide +kernel
theorem tz_28_27 : tw_E sc d 28 27 [x0, x1, x2, x3, x4, x5, x6] (.ref a :: st) g mi mr Q = (tw_kd g a = 0 ∧ tw_E sc d 28 30 [x0, x1, x2, x3, x4, x5, x6] (va_rf (mr a 2) :: st) g mi mr Q) := tw_x_getr td_28_27 to_28 tf_0_38 (trf_0_2)
theorem td_28_30 : decode (tw_cd 28) 30 = .ok (.iload 5, 2) := by decide +kernel
theorem tz_28_30 : tw_E sc d 28 30 [x0, x1, x2, x3, x4, some (.int v), x6] st g mi mr Q = tw_E sc d 28 32 [x0, x1, x2, x3, x4, some (.int v), x6] (.int v :: st) g mi mr Q := tw_x_iload td_28_30 rfl
theorem td_28_32 : decode (tw_cd 28) 32 = .ok (.iconst 1, 1) := by decide +kernel
theorem tz_28_32 : tw_E sc d 28 32 [x0, x1, x2, x3, x4, x5, x6] st g mi mr Q = tw_E sc d 28 33 [x0, x1, x2, x3, x4, x5, x6] (.int 1 :: st) g mi mr Q := tw_x_iconst td_28_32 (by decide)
theorem td_28_33 : decode (tw_cd 28) 33 = .ok (.isub, 1) := by decide +kernel
theorem tz_28_33 : tw_E sc d 28 33 [x0, x1, x2, x3, x4, x5, x6] (.int w :: .int v :: st) g mi mr Q = tw_E sc d 28 34 [x0, x1, x2, x3, x4, x5, x6] (.int (v - w) :: st) g mi mr Q := tw_x_isub td_28_33
theorem td_28_34 : decode (tw_cd 28) 34 = .ok (.invokevirtual 139, 3) := by decide +kernel
theorem tz_28_34 {a0 : Int32} : tw_E sc (d + 1) 28 34 [x0, x1, x2, x3, x4, x5, x6] ([.int a0, .ref a, s1, s2]) g mi mr Q = (tw_kd g a = 5 ∧ tw_E sc d 95 0 [some (.ref a), some (.int a0)] [] g mi mr (tw_K sc (d + 1) 28 37 [x0, x1, x2, x3, x4, x5, x6] [s1, s2] Q)) := tw_x_cv (as := [.int a0]) (r := [s1, s2]) td_28_34 to_28 tc_0_139 to_95 rfl rfl rfl rfl
theorem td_28_37 : decode (tw_cd 28) 37 = .ok (.iload_n 1, 1) := by decide +kernel
theorem tz_28_37 : tw_E sc d 28 37 [x0, some (.int v), x2, x3, x4, x5, x6] st g mi mr Q = tw_E sc d 28 38 [x0, some (.int v), x2, x3, x4, x5, x6] (.int v :: st) g mi mr Q := tw_x_iload_n td_28_37 rfl
theorem td_28_38 : decode (tw_cd 28) 38 = .ok (.invokevirtual 206, 3) := by decide +kernel
theorem tz_28_38 {a0 : Int32} {a1 : Int32} {a2 : Int32} : tw_E sc (d + 1) 28 38 [x0, x1, x2, x3, x4, x5, x6] ([.int a2, .int a1, .int a0, .ref a]) g mi mr Q = (tw_kd g a = 1 ∧ tw_E sc d 41 0 [some (.ref a), some (.int a0), some (.int a1), some (.int a2), none] [] g mi mr (tw_K sc (d + 1) 28 41 [x0, x1, x2, x3, x4, x5, x6] [] Q)) := tw_x_cv (as := [.int a0, .int a1, .int a2]) (r := []) td_28_38 to_28 tc_0_206 to_41 rfl rfl rfl rfl
theorem td_28_41 : decode (tw_cd 28) 41 = .ok (.istore 6, 2) := by decide +kernel
theorem tz_28_41 : tw_E sc d 28 41 [x0, x1, x2, x3, x4, x5, x6] (.int v :: st) g mi mr Q = tw_E sc d 28 43 [x0, x1, x2, x3, x4, x5, some (.int v)] st g mi mr Q := tw_x_istore td_28_41 tp_28 rfl
theorem td_28_43 : decode (tw_cd 28) 43 = .ok (.aload_n 0, 1) := by decide +kernel
theorem tz_28_43 : tw_E sc d 28 43 [some (.ref a), x1, x2, x3, x4, x5, x6] st g mi mr Q = tw_E sc d 28 44 [some (.ref a), x1, x2, x3, x4, x5, x6] (.ref a :: st) g mi mr Q := tw_x_aload_n td_28_43 rfl
theorem td_28_44 : decode (tw_cd 28) 44 = .ok (.getfield 38, 3) := by decide +kernel
theorem tz_28_44 : tw_E sc d 28 44 [x0, x1, x2, x3, x4, x5, x6] (.ref a :: st) g mi mr Q = (tw_kd g a = 0 ∧ tw_E sc d 28 47 [x0, x1, x2, x3, x4, x5, x6] (va_rf (mr a 2) :: st) g mi mr Q) := tw_x_getr td_28_44 to_28 tf_0_38 (trf_0_2)
theorem td_28_47 : decode (tw_cd 28) 47 = .ok (.iload_n 1, 1) := by decide +kernel
theorem tz_28_47 : tw_E sc d 28 47 [x0, some (.int v), x2, x3, x4, x5, x6] st g mi mr Q = tw_E sc d 28 48 [x0, some (.int v), x2, x3, x4, x5, x6] (.int v :: st) g mi mr Q := tw_x_iload_n td_28_47 rfl
theorem td_28_48 : decode (tw_cd 28) 48 = .ok (.iload 6, 2) := by decide +kernel
theorem tz_28_48 : tw_E sc d 28 48 [x0, x1, x2, x3, x4, x5, some (.int v)] st g mi mr Q = tw_E sc d 28 50 [x0, x1, x2, x3, x4, x5, some (.int v)] (.int v :: st) g mi mr Q := tw_x_iload td_28_48 rfl
theorem td_28_50 : decode (tw_cd 28) 50 = .ok (.invokevirtual 210, 3) := by decide +kernel
theorem tz_28_50 {a0 : Int32} {a1 : Int32} : tw_E sc (d + 1) 28 50 [x0, x1, x2, x3, x4, x5, x6] ([.int a1, .int a0, .ref a]) g mi mr Q = (tw_kd g a = 5 ∧ tw_E sc d 93 0 [some (.ref a), some (.int a0), some (.int a1)] [] g mi mr (tw_K sc (d + 1) 28 53 [x0, x1, x2, x3, x4, x5, x6] [] Q)) := tw_x_cv (as := [.int a0, .int a1]) (r := []) td_28_50 to_28 tc_0_210 to_93 rfl rfl rfl rfl
theorem td_28_53 : decode (tw_cd 28) 53 = .ok (.iload 6, 2) := by decide +kernel
theorem tz_28_53 : tw_E sc d 28 53 [x0, x1, x2, x3, x4, x5, some (.int v)] st g mi mr Q = tw_E sc d 28 55 [x0, x1, x2, x3, x4, x5, some (.int v)] (.int v :: st) g mi mr Q := tw_x_iload td_28_53 rfl
theorem td_28_55 : decode (tw_cd 28) 55 = .ok (.ifCond .eq 6, 3) := by decide +kernel
theorem tz_28_55 : tw_E sc d 28 55 [x0, x1, x2, x3, x4, x5, x6] (.int v :: st) g mi mr Q = if v = 0 then tw_E sc d 28 61 [x0, x1, x2, x3, x4, x5, x6] st g mi mr Q else tw_E sc d 28 58 [x0, x1, x2, x3, x4, x5, x6] st g mi mr Q := tw_x_if_eq td_28_55 (by decide)
theorem td_28_58 : decode (tw_cd 28) 58 = .ok (.iinc 3 1, 3) := by decide +kernel
theorem tz_28_58 : tw_E sc d 28 58 [x0, x1, x2, some (.int v), x4, x5, x6] st g mi mr Q = tw_E sc d 28 61 [x0, x1, x2, some (.int (v + 1)), x4, x5, x6] st g mi mr Q := tw_x_iinc td_28_58 rfl (by first | rfl | (exact congrArg (v + ·) (by decide))) tp_28 rfl
theorem td_28_61 : decode (tw_cd 28) 61 = .ok (.iinc 4 1, 3) := by decide +kernel
theorem tz_28_61 : tw_E sc d 28 61 [x0, x1, x2, x3, some (.int v), x5, x6] st g mi mr Q = tw_E sc d 28 64 [x0, x1, x2, x3, some (.int (v + 1)), x5, x6] st g mi mr Q := tw_x_iinc td_28_61 rfl (by first | rfl | (exact congrArg (v + ·) (by decide))) tp_28 rfl
theorem td_28_64 : decode (tw_cd 28) 64 = .ok (.goto (-59), 3) := by decide +kernel
theorem tz_28_64 : tw_E sc d 28 64 [x0, x1, x2, x3, x4, x5, x6] st g mi mr Q = tw_E sc d 28 5 [x0, x1, x2, x3, x4, x5, x6] st g mi mr Q := tw_x_goto td_28_64 (by decide)
theorem td_28_67 : decode (tw_cd 28) 67 = .ok (.iload_n 3, 1) := by decide +kernel
theorem tz_28_67 : tw_E sc d 28 67 [x0, x1, x2, some (.int v), x4, x5, x6] st g mi mr Q = tw_E sc d 28 68 [x0, x1, x2, some (.int v), x4, x5, x6] (.int v :: st) g mi mr Q := tw_x_iload_n td_28_67 rfl
theorem td_28_68 : decode (tw_cd 28) 68 = .ok (.ireturn, 1) := by decide +kernel
theorem tz_28_68 : tw_E sc d 28 68 [x0, x1, x2, x3, x4, x5, x6] ([.int v]) g mi mr Q = Q (some (.int v)) g mi mr := tw_x_iret td_28_68 tr_28
end tz_28
-- 29: Tl_takeThree
section tz_29
variable {sc : Nat × (Nat → Int32)} {d : Nat} {x0 x1 x2 x3 : Option Value} {st : List Value} {g : tw_G} {mi : tw_I} {mr : tw_Q} {Q : Option Value → tw_G → tw_I → tw_Q → Prop} {v w u : Int32} {a b : Nat} {j h : Int64} {s1 s2 s3 s4 : Value}
theorem td_29_0 : decode (tw_cd 29) 0 = .ok (.aload_n 0, 1) := by decide +kernel
theorem tz_29_0 : tw_E sc d 29 0 [some (.ref a), x1, x2, x3] st g mi mr Q = tw_E sc d 29 1 [some (.ref a), x1, x2, x3] (.ref a :: st) g mi mr Q := tw_x_aload_n td_29_0 rfl
theorem td_29_1 : decode (tw_cd 29) 1 = .ok (.iload_n 1, 1) := by decide +kernel
theorem tz_29_1 : tw_E sc d 29 1 [x0, some (.int v), x2, x3] st g mi mr Q = tw_E sc d 29 2 [x0, some (.int v), x2, x3] (.int v :: st) g mi mr Q := tw_x_iload_n td_29_1 rfl
theorem td_29_2 : decode (tw_cd 29) 2 = .ok (.iconst 1, 1) := by decide +kernel
theorem tz_29_2 : tw_E sc d 29 2 [x0, x1, x2, x3] st g mi mr Q = tw_E sc d 29 3 [x0, x1, x2, x3] (.int 1 :: st) g mi mr Q := tw_x_iconst td_29_2 (by decide)
theorem td_29_3 : decode (tw_cd 29) 3 = .ok (.invokevirtual 120, 3) := by decide +kernel
theorem tz_29_3 {a0 : Int32} {a1 : Int32} : tw_E sc (d + 1) 29 3 [x0, x1, x2, x3] ([.int a1, .int a0, .ref a]) g mi mr Q = (tw_kd g a = 0 ∧ tw_E sc d 28 0 [some (.ref a), some (.int a0), some (.int a1), none, none, none, none] [] g mi mr (tw_K sc (d + 1) 29 6 [x0, x1, x2, x3] [] Q)) := tw_x_cv (as := [.int a0, .int a1]) (r := []) td_29_3 to_29 tc_0_120 to_28 rfl rfl rfl rfl
theorem td_29_6 : decode (tw_cd 29) 6 = .ok (.aload_n 0, 1) := by decide +kernel
theorem tz_29_6 : tw_E sc d 29 6 [some (.ref a), x1, x2, x3] st g mi mr Q = tw_E sc d 29 7 [some (.ref a), x1, x2, x3] (.ref a :: st) g mi mr Q := tw_x_aload_n td_29_6 rfl
theorem td_29_7 : decode (tw_cd 29) 7 = .ok (.iload_n 2, 1) := by decide +kernel
theorem tz_29_7 : tw_E sc d 29 7 [x0, x1, some (.int v), x3] st g mi mr Q = tw_E sc d 29 8 [x0, x1, some (.int v), x3] (.int v :: st) g mi mr Q := tw_x_iload_n td_29_7 rfl
theorem td_29_8 : decode (tw_cd 29) 8 = .ok (.iconst 1, 1) := by decide +kernel
theorem tz_29_8 : tw_E sc d 29 8 [x0, x1, x2, x3] st g mi mr Q = tw_E sc d 29 9 [x0, x1, x2, x3] (.int 1 :: st) g mi mr Q := tw_x_iconst td_29_8 (by decide)
theorem td_29_9 : decode (tw_cd 29) 9 = .ok (.invokevirtual 120, 3) := by decide +kernel
theorem tz_29_9 {a0 : Int32} {a1 : Int32} : tw_E sc (d + 1) 29 9 [x0, x1, x2, x3] ([.int a1, .int a0, .ref a, s1]) g mi mr Q = (tw_kd g a = 0 ∧ tw_E sc d 28 0 [some (.ref a), some (.int a0), some (.int a1), none, none, none, none] [] g mi mr (tw_K sc (d + 1) 29 12 [x0, x1, x2, x3] [s1] Q)) := tw_x_cv (as := [.int a0, .int a1]) (r := [s1]) td_29_9 to_29 tc_0_120 to_28 rfl rfl rfl rfl
theorem td_29_12 : decode (tw_cd 29) 12 = .ok (.iadd, 1) := by decide +kernel
theorem tz_29_12 : tw_E sc d 29 12 [x0, x1, x2, x3] (.int w :: .int v :: st) g mi mr Q = tw_E sc d 29 13 [x0, x1, x2, x3] (.int (v + w) :: st) g mi mr Q := tw_x_iadd td_29_12
theorem td_29_13 : decode (tw_cd 29) 13 = .ok (.aload_n 0, 1) := by decide +kernel
theorem tz_29_13 : tw_E sc d 29 13 [some (.ref a), x1, x2, x3] st g mi mr Q = tw_E sc d 29 14 [some (.ref a), x1, x2, x3] (.ref a :: st) g mi mr Q := tw_x_aload_n td_29_13 rfl
theorem td_29_14 : decode (tw_cd 29) 14 = .ok (.iload_n 3, 1) := by decide +kernel
theorem tz_29_14 : tw_E sc d 29 14 [x0, x1, x2, some (.int v)] st g mi mr Q = tw_E sc d 29 15 [x0, x1, x2, some (.int v)] (.int v :: st) g mi mr Q := tw_x_iload_n td_29_14 rfl
theorem td_29_15 : decode (tw_cd 29) 15 = .ok (.iconst 1, 1) := by decide +kernel
theorem tz_29_15 : tw_E sc d 29 15 [x0, x1, x2, x3] st g mi mr Q = tw_E sc d 29 16 [x0, x1, x2, x3] (.int 1 :: st) g mi mr Q := tw_x_iconst td_29_15 (by decide)
theorem td_29_16 : decode (tw_cd 29) 16 = .ok (.invokevirtual 120, 3) := by decide +kernel
theorem tz_29_16 {a0 : Int32} {a1 : Int32} : tw_E sc (d + 1) 29 16 [x0, x1, x2, x3] ([.int a1, .int a0, .ref a, s1]) g mi mr Q = (tw_kd g a = 0 ∧ tw_E sc d 28 0 [some (.ref a), some (.int a0), some (.int a1), none, none, none, none] [] g mi mr (tw_K sc (d + 1) 29 19 [x0, x1, x2, x3] [s1] Q)) := tw_x_cv (as := [.int a0, .int a1]) (r := [s1]) td_29_16 to_29 tc_0_120 to_28 rfl rfl rfl rfl
theorem td_29_19 : decode (tw_cd 29) 19 = .ok (.iadd, 1) := by decide +kernel
theorem tz_29_19 : tw_E sc d 29 19 [x0, x1, x2, x3] (.int w :: .int v :: st) g mi mr Q = tw_E sc d 29 20 [x0, x1, x2, x3] (.int (v + w) :: st) g mi mr Q := tw_x_iadd td_29_19
theorem td_29_20 : decode (tw_cd 29) 20 = .ok (.ireturn, 1) := by decide +kernel
theorem tz_29_20 : tw_E sc d 29 20 [x0, x1, x2, x3] ([.int v]) g mi mr Q = Q (some (.int v)) g mi mr := tw_x_iret td_29_20 tr_29
end tz_29
-- 30: Tl_takeFrame
section tz_30
variable {sc : Nat × (Nat → Int32)} {d : Nat} {x0 x1 x2 x3 x4 x5 x6 x7 : Option Value} {st : List Value} {g : tw_G} {mi : tw_I} {mr : tw_Q} {Q : Option Value → tw_G → tw_I → tw_Q → Prop} {v w u : Int32} {a b : Nat} {j h : Int64} {s1 s2 s3 s4 : Value}
theorem td_30_0 : decode (tw_cd 30) 0 = .ok (.aload_n 0, 1) := by decide +kernel
theorem tz_30_0 : tw_E sc d 30 0 [some (.ref a), x1, x2, x3, x4, x5, x6, x7] st g mi mr Q = tw_E sc d 30 1 [some (.ref a), x1, x2, x3, x4, x5, x6, x7] (.ref a :: st) g mi mr Q := tw_x_aload_n td_30_0 rfl
theorem td_30_1 : decode (tw_cd 30) 1 = .ok (.invokevirtual 187, 3) := by decide +kernel
theorem tz_30_1 : tw_E sc (d + 1) 30 1 [x0, x1, x2, x3, x4, x5, x6, x7] ([.ref a]) g mi mr Q = (tw_kd g a = 0 ∧ tw_E sc d 27 0 [some (.ref a)] [] g mi mr (tw_K sc (d + 1) 30 4 [x0, x1, x2, x3, x4, x5, x6, x7] [] Q)) := tw_x_cv (as := []) (r := []) td_30_1 to_30 tc_0_187 to_27 rfl rfl rfl rfl
theorem td_30_4 : decode (tw_cd 30) 4 = .ok (.iload_n 1, 1) := by decide +kernel
theorem tz_30_4 : tw_E sc d 30 4 [x0, some (.int v), x2, x3, x4, x5, x6, x7] st g mi mr Q = tw_E sc d 30 5 [x0, some (.int v), x2, x3, x4, x5, x6, x7] (.int v :: st) g mi mr Q := tw_x_iload_n td_30_4 rfl
theorem td_30_5 : decode (tw_cd 30) 5 = .ok (.iconst (-1), 1) := by decide +kernel
theorem tz_30_5 : tw_E sc d 30 5 [x0, x1, x2, x3, x4, x5, x6, x7] st g mi mr Q = tw_E sc d 30 6 [x0, x1, x2, x3, x4, x5, x6, x7] (.int (-1) :: st) g mi mr Q := tw_x_iconst td_30_5 (by decide)
theorem td_30_6 : decode (tw_cd 30) 6 = .ok (.ixor, 1) := by decide +kernel
theorem tz_30_6 : tw_E sc d 30 6 [x0, x1, x2, x3, x4, x5, x6, x7] (.int w :: .int v :: st) g mi mr Q = tw_E sc d 30 7 [x0, x1, x2, x3, x4, x5, x6, x7] (.int (v ^^^ w) :: st) g mi mr Q := tw_x_ixor td_30_6
theorem td_30_7 : decode (tw_cd 30) 7 = .ok (.iand, 1) := by decide +kernel
theorem tz_30_7 : tw_E sc d 30 7 [x0, x1, x2, x3, x4, x5, x6, x7] (.int w :: .int v :: st) g mi mr Q = tw_E sc d 30 8 [x0, x1, x2, x3, x4, x5, x6, x7] (.int (v &&& w) :: st) g mi mr Q := tw_x_iand td_30_7
theorem td_30_8 : decode (tw_cd 30) 8 = .ok (.istore 4, 2) := by decide +kernel
theorem tz_30_8 : tw_E sc d 30 8 [x0, x1, x2, x3, x4, x5, x6, x7] (.int v :: st) g mi mr Q = tw_E sc d 30 10 [x0, x1, x2, x3, some (.int v), x5, x6, x7] st g mi mr Q := tw_x_istore td_30_8 tp_30 rfl
theorem td_30_10 : decode (tw_cd 30) 10 = .ok (.iload 4, 2) := by decide +kernel
theorem tz_30_10 : tw_E sc d 30 10 [x0, x1, x2, x3, some (.int v), x5, x6, x7] st g mi mr Q = tw_E sc d 30 12 [x0, x1, x2, x3, some (.int v), x5, x6, x7] (.int v :: st) g mi mr Q := tw_x_iload td_30_10 rfl
theorem td_30_12 : decode (tw_cd 30) 12 = .ok (.iload_n 1, 1) := by decide +kernel
theorem tz_30_12 : tw_E sc d 30 12 [x0, some (.int v), x2, x3, x4, x5, x6, x7] st g mi mr Q = tw_E sc d 30 13 [x0, some (.int v), x2, x3, x4, x5, x6, x7] (.int v :: st) g mi mr Q := tw_x_iload_n td_30_12 rfl
theorem td_30_13 : decode (tw_cd 30) 13 = .ok (.ior, 1) := by decide +kernel
theorem tz_30_13 : tw_E sc d 30 13 [x0, x1, x2, x3, x4, x5, x6, x7] (.int w :: .int v :: st) g mi mr Q = tw_E sc d 30 14 [x0, x1, x2, x3, x4, x5, x6, x7] (.int (v ||| w) :: st) g mi mr Q := tw_x_ior td_30_13
theorem td_30_14 : decode (tw_cd 30) 14 = .ok (.istore 5, 2) := by decide +kernel
theorem tz_30_14 : tw_E sc d 30 14 [x0, x1, x2, x3, x4, x5, x6, x7] (.int v :: st) g mi mr Q = tw_E sc d 30 16 [x0, x1, x2, x3, x4, some (.int v), x6, x7] st g mi mr Q := tw_x_istore td_30_14 tp_30 rfl
theorem td_30_16 : decode (tw_cd 30) 16 = .ok (.aload_n 0, 1) := by decide +kernel
theorem tz_30_16 : tw_E sc d 30 16 [some (.ref a), x1, x2, x3, x4, x5, x6, x7] st g mi mr Q = tw_E sc d 30 17 [some (.ref a), x1, x2, x3, x4, x5, x6, x7] (.ref a :: st) g mi mr Q := tw_x_aload_n td_30_16 rfl
theorem td_30_17 : decode (tw_cd 30) 17 = .ok (.iload 4, 2) := by decide +kernel
theorem tz_30_17 : tw_E sc d 30 17 [x0, x1, x2, x3, some (.int v), x5, x6, x7] st g mi mr Q = tw_E sc d 30 19 [x0, x1, x2, x3, some (.int v), x5, x6, x7] (.int v :: st) g mi mr Q := tw_x_iload td_30_17 rfl
theorem td_30_19 : decode (tw_cd 30) 19 = .ok (.iload_n 2, 1) := by decide +kernel
theorem tz_30_19 : tw_E sc d 30 19 [x0, x1, some (.int v), x3, x4, x5, x6, x7] st g mi mr Q = tw_E sc d 30 20 [x0, x1, some (.int v), x3, x4, x5, x6, x7] (.int v :: st) g mi mr Q := tw_x_iload_n td_30_19 rfl
theorem td_30_20 : decode (tw_cd 30) 20 = .ok (.invokevirtual 120, 3) := by decide +kernel
theorem tz_30_20 {a0 : Int32} {a1 : Int32} : tw_E sc (d + 1) 30 20 [x0, x1, x2, x3, x4, x5, x6, x7] ([.int a1, .int a0, .ref a]) g mi mr Q = (tw_kd g a = 0 ∧ tw_E sc d 28 0 [some (.ref a), some (.int a0), some (.int a1), none, none, none, none] [] g mi mr (tw_K sc (d + 1) 30 23 [x0, x1, x2, x3, x4, x5, x6, x7] [] Q)) := tw_x_cv (as := [.int a0, .int a1]) (r := []) td_30_20 to_30 tc_0_120 to_28 rfl rfl rfl rfl
theorem td_30_23 : decode (tw_cd 30) 23 = .ok (.istore 6, 2) := by decide +kernel
theorem tz_30_23 : tw_E sc d 30 23 [x0, x1, x2, x3, x4, x5, x6, x7] (.int v :: st) g mi mr Q = tw_E sc d 30 25 [x0, x1, x2, x3, x4, x5, some (.int v), x7] st g mi mr Q := tw_x_istore td_30_23 tp_30 rfl
theorem td_30_25 : decode (tw_cd 30) 25 = .ok (.iconst 0, 1) := by decide +kernel
theorem tz_30_25 : tw_E sc d 30 25 [x0, x1, x2, x3, x4, x5, x6, x7] st g mi mr Q = tw_E sc d 30 26 [x0, x1, x2, x3, x4, x5, x6, x7] (.int 0 :: st) g mi mr Q := tw_x_iconst td_30_25 (by decide)
theorem td_30_26 : decode (tw_cd 30) 26 = .ok (.istore 7, 2) := by decide +kernel
theorem tz_30_26 : tw_E sc d 30 26 [x0, x1, x2, x3, x4, x5, x6, x7] (.int v :: st) g mi mr Q = tw_E sc d 30 28 [x0, x1, x2, x3, x4, x5, x6, some (.int v)] st g mi mr Q := tw_x_istore td_30_26 tp_30 rfl
theorem td_30_28 : decode (tw_cd 30) 28 = .ok (.iload 7, 2) := by decide +kernel
theorem tz_30_28 : tw_E sc d 30 28 [x0, x1, x2, x3, x4, x5, x6, some (.int v)] st g mi mr Q = tw_E sc d 30 30 [x0, x1, x2, x3, x4, x5, x6, some (.int v)] (.int v :: st) g mi mr Q := tw_x_iload td_30_28 rfl
theorem td_30_30 : decode (tw_cd 30) 30 = .ok (.bipush 8, 2) := by decide +kernel
theorem tz_30_30 : tw_E sc d 30 30 [x0, x1, x2, x3, x4, x5, x6, x7] st g mi mr Q = tw_E sc d 30 32 [x0, x1, x2, x3, x4, x5, x6, x7] (.int 8 :: st) g mi mr Q := tw_x_bipush td_30_30 (by decide)
theorem td_30_32 : decode (tw_cd 30) 32 = .ok (.if_icmp .ge 36, 3) := by decide +kernel
theorem tz_30_32 : tw_E sc d 30 32 [x0, x1, x2, x3, x4, x5, x6, x7] (.int w :: .int v :: st) g mi mr Q = if w ≤ v then tw_E sc d 30 68 [x0, x1, x2, x3, x4, x5, x6, x7] st g mi mr Q else tw_E sc d 30 35 [x0, x1, x2, x3, x4, x5, x6, x7] st g mi mr Q := tw_x_ic_ge td_30_32 (by decide)
theorem td_30_35 : decode (tw_cd 30) 35 = .ok (.iload 6, 2) := by decide +kernel
theorem tz_30_35 : tw_E sc d 30 35 [x0, x1, x2, x3, x4, x5, some (.int v), x7] st g mi mr Q = tw_E sc d 30 37 [x0, x1, x2, x3, x4, x5, some (.int v), x7] (.int v :: st) g mi mr Q := tw_x_iload td_30_35 rfl
theorem td_30_37 : decode (tw_cd 30) 37 = .ok (.aload_n 0, 1) := by decide +kernel
theorem tz_30_37 : tw_E sc d 30 37 [some (.ref a), x1, x2, x3, x4, x5, x6, x7] st g mi mr Q = tw_E sc d 30 38 [some (.ref a), x1, x2, x3, x4, x5, x6, x7] (.ref a :: st) g mi mr Q := tw_x_aload_n td_30_37 rfl
theorem td_30_38 : decode (tw_cd 30) 38 = .ok (.iload_n 3, 1) := by decide +kernel
theorem tz_30_38 : tw_E sc d 30 38 [x0, x1, x2, some (.int v), x4, x5, x6, x7] st g mi mr Q = tw_E sc d 30 39 [x0, x1, x2, some (.int v), x4, x5, x6, x7] (.int v :: st) g mi mr Q := tw_x_iload_n td_30_38 rfl
theorem td_30_39 : decode (tw_cd 30) 39 = .ok (.iload 7, 2) := by decide +kernel
theorem tz_30_39 : tw_E sc d 30 39 [x0, x1, x2, x3, x4, x5, x6, some (.int v)] st g mi mr Q = tw_E sc d 30 41 [x0, x1, x2, x3, x4, x5, x6, some (.int v)] (.int v :: st) g mi mr Q := tw_x_iload td_30_39 rfl
theorem td_30_41 : decode (tw_cd 30) 41 = .ok (.invokestatic 193, 3) := by decide +kernel
theorem tz_30_41 {a0 : Int32} {a1 : Int32} : tw_E sc (d + 1) 30 41 [x0, x1, x2, x3, x4, x5, x6, x7] ([.int a1, .int a0, s1, s2]) g mi mr Q = tw_E sc d 31 0 [some (.int a0), some (.int a1)] [] g mi mr (tw_K sc (d + 1) 30 44 [x0, x1, x2, x3, x4, x5, x6, x7] [s1, s2] Q) := tw_x_cs (as := [.int a0, .int a1]) (r := [s1, s2]) td_30_41 to_30 tmn_0_193 tc_0_193 rfl rfl rfl rfl rfl
theorem td_30_44 : decode (tw_cd 30) 44 = .ok (.iconst 1, 1) := by decide +kernel
theorem tz_30_44 : tw_E sc d 30 44 [x0, x1, x2, x3, x4, x5, x6, x7] st g mi mr Q = tw_E sc d 30 45 [x0, x1, x2, x3, x4, x5, x6, x7] (.int 1 :: st) g mi mr Q := tw_x_iconst td_30_44 (by decide)
theorem td_30_45 : decode (tw_cd 30) 45 = .ok (.if_icmp .ne 8, 3) := by decide +kernel
theorem tz_30_45 : tw_E sc d 30 45 [x0, x1, x2, x3, x4, x5, x6, x7] (.int w :: .int v :: st) g mi mr Q = if ¬ v = w then tw_E sc d 30 53 [x0, x1, x2, x3, x4, x5, x6, x7] st g mi mr Q else tw_E sc d 30 48 [x0, x1, x2, x3, x4, x5, x6, x7] st g mi mr Q := tw_x_ic_ne td_30_45 (by decide)
theorem td_30_48 : decode (tw_cd 30) 48 = .ok (.iload 5, 2) := by decide +kernel
theorem tz_30_48 : tw_E sc d 30 48 [x0, x1, x2, x3, x4, some (.int v), x6, x7] st g mi mr Q = tw_E sc d 30 50 [x0, x1, x2, x3, x4, some (.int v), x6, x7] (.int v :: st) g mi mr Q := tw_x_iload td_30_48 rfl
theorem td_30_50 : decode (tw_cd 30) 50 = .ok (.goto 5, 3) := by decide +kernel
theorem tz_30_50 : tw_E sc d 30 50 [x0, x1, x2, x3, x4, x5, x6, x7] st g mi mr Q = tw_E sc d 30 55 [x0, x1, x2, x3, x4, x5, x6, x7] st g mi mr Q := tw_x_goto td_30_50 (by decide)
theorem td_30_53 : decode (tw_cd 30) 53 = .ok (.iload 4, 2) := by decide +kernel
theorem tz_30_53 : tw_E sc d 30 53 [x0, x1, x2, x3, some (.int v), x5, x6, x7] st g mi mr Q = tw_E sc d 30 55 [x0, x1, x2, x3, some (.int v), x5, x6, x7] (.int v :: st) g mi mr Q := tw_x_iload td_30_53 rfl
theorem td_30_55 : decode (tw_cd 30) 55 = .ok (.iload_n 2, 1) := by decide +kernel
theorem tz_30_55 : tw_E sc d 30 55 [x0, x1, some (.int v), x3, x4, x5, x6, x7] st g mi mr Q = tw_E sc d 30 56 [x0, x1, some (.int v), x3, x4, x5, x6, x7] (.int v :: st) g mi mr Q := tw_x_iload_n td_30_55 rfl
theorem td_30_56 : decode (tw_cd 30) 56 = .ok (.invokevirtual 120, 3) := by decide +kernel
theorem tz_30_56 {a0 : Int32} {a1 : Int32} : tw_E sc (d + 1) 30 56 [x0, x1, x2, x3, x4, x5, x6, x7] ([.int a1, .int a0, .ref a, s1]) g mi mr Q = (tw_kd g a = 0 ∧ tw_E sc d 28 0 [some (.ref a), some (.int a0), some (.int a1), none, none, none, none] [] g mi mr (tw_K sc (d + 1) 30 59 [x0, x1, x2, x3, x4, x5, x6, x7] [s1] Q)) := tw_x_cv (as := [.int a0, .int a1]) (r := [s1]) td_30_56 to_30 tc_0_120 to_28 rfl rfl rfl rfl
theorem td_30_59 : decode (tw_cd 30) 59 = .ok (.iadd, 1) := by decide +kernel
theorem tz_30_59 : tw_E sc d 30 59 [x0, x1, x2, x3, x4, x5, x6, x7] (.int w :: .int v :: st) g mi mr Q = tw_E sc d 30 60 [x0, x1, x2, x3, x4, x5, x6, x7] (.int (v + w) :: st) g mi mr Q := tw_x_iadd td_30_59
theorem td_30_60 : decode (tw_cd 30) 60 = .ok (.istore 6, 2) := by decide +kernel
theorem tz_30_60 : tw_E sc d 30 60 [x0, x1, x2, x3, x4, x5, x6, x7] (.int v :: st) g mi mr Q = tw_E sc d 30 62 [x0, x1, x2, x3, x4, x5, some (.int v), x7] st g mi mr Q := tw_x_istore td_30_60 tp_30 rfl
theorem td_30_62 : decode (tw_cd 30) 62 = .ok (.iinc 7 1, 3) := by decide +kernel
theorem tz_30_62 : tw_E sc d 30 62 [x0, x1, x2, x3, x4, x5, x6, some (.int v)] st g mi mr Q = tw_E sc d 30 65 [x0, x1, x2, x3, x4, x5, x6, some (.int (v + 1))] st g mi mr Q := tw_x_iinc td_30_62 rfl (by first | rfl | (exact congrArg (v + ·) (by decide))) tp_30 rfl
theorem td_30_65 : decode (tw_cd 30) 65 = .ok (.goto (-37), 3) := by decide +kernel
theorem tz_30_65 : tw_E sc d 30 65 [x0, x1, x2, x3, x4, x5, x6, x7] st g mi mr Q = tw_E sc d 30 28 [x0, x1, x2, x3, x4, x5, x6, x7] st g mi mr Q := tw_x_goto td_30_65 (by decide)
theorem td_30_68 : decode (tw_cd 30) 68 = .ok (.iload 6, 2) := by decide +kernel
theorem tz_30_68 : tw_E sc d 30 68 [x0, x1, x2, x3, x4, x5, some (.int v), x7] st g mi mr Q = tw_E sc d 30 70 [x0, x1, x2, x3, x4, x5, some (.int v), x7] (.int v :: st) g mi mr Q := tw_x_iload td_30_68 rfl
theorem td_30_70 : decode (tw_cd 30) 70 = .ok (.aload_n 0, 1) := by decide +kernel
theorem tz_30_70 : tw_E sc d 30 70 [some (.ref a), x1, x2, x3, x4, x5, x6, x7] st g mi mr Q = tw_E sc d 30 71 [some (.ref a), x1, x2, x3, x4, x5, x6, x7] (.ref a :: st) g mi mr Q := tw_x_aload_n td_30_70 rfl
theorem td_30_71 : decode (tw_cd 30) 71 = .ok (.iload 5, 2) := by decide +kernel
theorem tz_30_71 : tw_E sc d 30 71 [x0, x1, x2, x3, x4, some (.int v), x6, x7] st g mi mr Q = tw_E sc d 30 73 [x0, x1, x2, x3, x4, some (.int v), x6, x7] (.int v :: st) g mi mr Q := tw_x_iload td_30_71 rfl
theorem td_30_73 : decode (tw_cd 30) 73 = .ok (.iload_n 2, 1) := by decide +kernel
theorem tz_30_73 : tw_E sc d 30 73 [x0, x1, some (.int v), x3, x4, x5, x6, x7] st g mi mr Q = tw_E sc d 30 74 [x0, x1, some (.int v), x3, x4, x5, x6, x7] (.int v :: st) g mi mr Q := tw_x_iload_n td_30_73 rfl
theorem td_30_74 : decode (tw_cd 30) 74 = .ok (.invokevirtual 120, 3) := by decide +kernel
theorem tz_30_74 {a0 : Int32} {a1 : Int32} : tw_E sc (d + 1) 30 74 [x0, x1, x2, x3, x4, x5, x6, x7] ([.int a1, .int a0, .ref a, s1]) g mi mr Q = (tw_kd g a = 0 ∧ tw_E sc d 28 0 [some (.ref a), some (.int a0), some (.int a1), none, none, none, none] [] g mi mr (tw_K sc (d + 1) 30 77 [x0, x1, x2, x3, x4, x5, x6, x7] [s1] Q)) := tw_x_cv (as := [.int a0, .int a1]) (r := [s1]) td_30_74 to_30 tc_0_120 to_28 rfl rfl rfl rfl
theorem td_30_77 : decode (tw_cd 30) 77 = .ok (.iadd, 1) := by decide +kernel
theorem tz_30_77 : tw_E sc d 30 77 [x0, x1, x2, x3, x4, x5, x6, x7] (.int w :: .int v :: st) g mi mr Q = tw_E sc d 30 78 [x0, x1, x2, x3, x4, x5, x6, x7] (.int (v + w) :: st) g mi mr Q := tw_x_iadd td_30_77
theorem td_30_78 : decode (tw_cd 30) 78 = .ok (.ireturn, 1) := by decide +kernel
theorem tz_30_78 : tw_E sc d 30 78 [x0, x1, x2, x3, x4, x5, x6, x7] ([.int v]) g mi mr Q = Q (some (.int v)) g mi mr := tw_x_iret td_30_78 tr_30
end tz_30
-- 31: Tl_bitOf
section tz_31
variable {sc : Nat × (Nat → Int32)} {d : Nat} {x0 x1 : Option Value} {st : List Value} {g : tw_G} {mi : tw_I} {mr : tw_Q} {Q : Option Value → tw_G → tw_I → tw_Q → Prop} {v w u : Int32} {a b : Nat} {j h : Int64} {s1 s2 s3 s4 : Value}
theorem td_31_0 : decode (tw_cd 31) 0 = .ok (.iload_n 0, 1) := by decide +kernel
theorem tz_31_0 : tw_E sc d 31 0 [some (.int v), x1] st g mi mr Q = tw_E sc d 31 1 [some (.int v), x1] (.int v :: st) g mi mr Q := tw_x_iload_n td_31_0 rfl
theorem td_31_1 : decode (tw_cd 31) 1 = .ok (.iload_n 1, 1) := by decide +kernel
theorem tz_31_1 : tw_E sc d 31 1 [x0, some (.int v)] st g mi mr Q = tw_E sc d 31 2 [x0, some (.int v)] (.int v :: st) g mi mr Q := tw_x_iload_n td_31_1 rfl
theorem td_31_2 : decode (tw_cd 31) 2 = .ok (.ishr, 1) := by decide +kernel
theorem tz_31_2 : tw_E sc d 31 2 [x0, x1] (.int w :: .int v :: st) g mi mr Q = tw_E sc d 31 3 [x0, x1] (.int (v >>> (w &&& 31)) :: st) g mi mr Q := tw_x_ishr td_31_2
theorem td_31_3 : decode (tw_cd 31) 3 = .ok (.iconst 1, 1) := by decide +kernel
theorem tz_31_3 : tw_E sc d 31 3 [x0, x1] st g mi mr Q = tw_E sc d 31 4 [x0, x1] (.int 1 :: st) g mi mr Q := tw_x_iconst td_31_3 (by decide)
theorem td_31_4 : decode (tw_cd 31) 4 = .ok (.iand, 1) := by decide +kernel
theorem tz_31_4 : tw_E sc d 31 4 [x0, x1] (.int w :: .int v :: st) g mi mr Q = tw_E sc d 31 5 [x0, x1] (.int (v &&& w) :: st) g mi mr Q := tw_x_iand td_31_4
theorem td_31_5 : decode (tw_cd 31) 5 = .ok (.ireturn, 1) := by decide +kernel
theorem tz_31_5 : tw_E sc d 31 5 [x0, x1] ([.int v]) g mi mr Q = Q (some (.int v)) g mi mr := tw_x_iret td_31_5 tr_31
end tz_31
-- 32: Tl_isWire
section tz_32
variable {sc : Nat × (Nat → Int32)} {d : Nat} {x0 : Option Value} {st : List Value} {g : tw_G} {mi : tw_I} {mr : tw_Q} {Q : Option Value → tw_G → tw_I → tw_Q → Prop} {v w u : Int32} {a b : Nat} {j h : Int64} {s1 s2 s3 s4 : Value}
theorem td_32_0 : decode (tw_cd 32) 0 = .ok (.iload_n 0, 1) := by decide +kernel
theorem tz_32_0 : tw_E sc d 32 0 [some (.int v)] st g mi mr Q = tw_E sc d 32 1 [some (.int v)] (.int v :: st) g mi mr Q := tw_x_iload_n td_32_0 rfl
theorem td_32_1 : decode (tw_cd 32) 1 = .ok (.ifCond .lt 13, 3) := by decide +kernel
theorem tz_32_1 : tw_E sc d 32 1 [x0] (.int v :: st) g mi mr Q = if v < 0 then tw_E sc d 32 14 [x0] st g mi mr Q else tw_E sc d 32 4 [x0] st g mi mr Q := tw_x_if_lt td_32_1 (by decide)
theorem td_32_4 : decode (tw_cd 32) 4 = .ok (.iload_n 0, 1) := by decide +kernel
theorem tz_32_4 : tw_E sc d 32 4 [some (.int v)] st g mi mr Q = tw_E sc d 32 5 [some (.int v)] (.int v :: st) g mi mr Q := tw_x_iload_n td_32_4 rfl
theorem td_32_5 : decode (tw_cd 32) 5 = .ok (.bipush 16, 2) := by decide +kernel
theorem tz_32_5 : tw_E sc d 32 5 [x0] st g mi mr Q = tw_E sc d 32 7 [x0] (.int 16 :: st) g mi mr Q := tw_x_bipush td_32_5 (by decide)
theorem td_32_7 : decode (tw_cd 32) 7 = .ok (.if_icmp .ge 7, 3) := by decide +kernel
theorem tz_32_7 : tw_E sc d 32 7 [x0] (.int w :: .int v :: st) g mi mr Q = if w ≤ v then tw_E sc d 32 14 [x0] st g mi mr Q else tw_E sc d 32 10 [x0] st g mi mr Q := tw_x_ic_ge td_32_7 (by decide)
theorem td_32_10 : decode (tw_cd 32) 10 = .ok (.iconst 1, 1) := by decide +kernel
theorem tz_32_10 : tw_E sc d 32 10 [x0] st g mi mr Q = tw_E sc d 32 11 [x0] (.int 1 :: st) g mi mr Q := tw_x_iconst td_32_10 (by decide)
theorem td_32_11 : decode (tw_cd 32) 11 = .ok (.goto 4, 3) := by decide +kernel
theorem tz_32_11 : tw_E sc d 32 11 [x0] st g mi mr Q = tw_E sc d 32 15 [x0] st g mi mr Q := tw_x_goto td_32_11 (by decide)
theorem td_32_14 : decode (tw_cd 32) 14 = .ok (.iconst 0, 1) := by decide +kernel
theorem tz_32_14 : tw_E sc d 32 14 [x0] st g mi mr Q = tw_E sc d 32 15 [x0] (.int 0 :: st) g mi mr Q := tw_x_iconst td_32_14 (by decide)
theorem td_32_15 : decode (tw_cd 32) 15 = .ok (.ireturn, 1) := by decide +kernel
theorem tz_32_15 : tw_E sc d 32 15 [x0] ([.int v]) g mi mr Q = ((v = 0 ∨ v = 1) ∧ Q (some (.int v)) g mi mr) := tw_x_zret td_32_15 tr_32
end tz_32
-- 33: Tl_isWidth
section tz_33
variable {sc : Nat × (Nat → Int32)} {d : Nat} {x0 : Option Value} {st : List Value} {g : tw_G} {mi : tw_I} {mr : tw_Q} {Q : Option Value → tw_G → tw_I → tw_Q → Prop} {v w u : Int32} {a b : Nat} {j h : Int64} {s1 s2 s3 s4 : Value}
theorem td_33_0 : decode (tw_cd 33) 0 = .ok (.iload_n 0, 1) := by decide +kernel
theorem tz_33_0 : tw_E sc d 33 0 [some (.int v)] st g mi mr Q = tw_E sc d 33 1 [some (.int v)] (.int v :: st) g mi mr Q := tw_x_iload_n td_33_0 rfl
theorem td_33_1 : decode (tw_cd 33) 1 = .ok (.iconst 1, 1) := by decide +kernel
theorem tz_33_1 : tw_E sc d 33 1 [x0] st g mi mr Q = tw_E sc d 33 2 [x0] (.int 1 :: st) g mi mr Q := tw_x_iconst td_33_1 (by decide)
theorem td_33_2 : decode (tw_cd 33) 2 = .ok (.if_icmp .lt 13, 3) := by decide +kernel
theorem tz_33_2 : tw_E sc d 33 2 [x0] (.int w :: .int v :: st) g mi mr Q = if v < w then tw_E sc d 33 15 [x0] st g mi mr Q else tw_E sc d 33 5 [x0] st g mi mr Q := tw_x_ic_lt td_33_2 (by decide)
theorem td_33_5 : decode (tw_cd 33) 5 = .ok (.iload_n 0, 1) := by decide +kernel
theorem tz_33_5 : tw_E sc d 33 5 [some (.int v)] st g mi mr Q = tw_E sc d 33 6 [some (.int v)] (.int v :: st) g mi mr Q := tw_x_iload_n td_33_5 rfl
theorem td_33_6 : decode (tw_cd 33) 6 = .ok (.bipush 20, 2) := by decide +kernel
theorem tz_33_6 : tw_E sc d 33 6 [x0] st g mi mr Q = tw_E sc d 33 8 [x0] (.int 20 :: st) g mi mr Q := tw_x_bipush td_33_6 (by decide)
theorem td_33_8 : decode (tw_cd 33) 8 = .ok (.if_icmp .gt 7, 3) := by decide +kernel
theorem tz_33_8 : tw_E sc d 33 8 [x0] (.int w :: .int v :: st) g mi mr Q = if w < v then tw_E sc d 33 15 [x0] st g mi mr Q else tw_E sc d 33 11 [x0] st g mi mr Q := tw_x_ic_gt td_33_8 (by decide)
theorem td_33_11 : decode (tw_cd 33) 11 = .ok (.iconst 1, 1) := by decide +kernel
theorem tz_33_11 : tw_E sc d 33 11 [x0] st g mi mr Q = tw_E sc d 33 12 [x0] (.int 1 :: st) g mi mr Q := tw_x_iconst td_33_11 (by decide)
theorem td_33_12 : decode (tw_cd 33) 12 = .ok (.goto 4, 3) := by decide +kernel
theorem tz_33_12 : tw_E sc d 33 12 [x0] st g mi mr Q = tw_E sc d 33 16 [x0] st g mi mr Q := tw_x_goto td_33_12 (by decide)
theorem td_33_15 : decode (tw_cd 33) 15 = .ok (.iconst 0, 1) := by decide +kernel
theorem tz_33_15 : tw_E sc d 33 15 [x0] st g mi mr Q = tw_E sc d 33 16 [x0] (.int 0 :: st) g mi mr Q := tw_x_iconst td_33_15 (by decide)
theorem td_33_16 : decode (tw_cd 33) 16 = .ok (.ireturn, 1) := by decide +kernel
theorem tz_33_16 : tw_E sc d 33 16 [x0] ([.int v]) g mi mr Q = ((v = 0 ∨ v = 1) ∧ Q (some (.int v)) g mi mr) := tw_x_zret td_33_16 tr_33
end tz_33
-- 34: Tl_isByte
section tz_34
variable {sc : Nat × (Nat → Int32)} {d : Nat} {x0 : Option Value} {st : List Value} {g : tw_G} {mi : tw_I} {mr : tw_Q} {Q : Option Value → tw_G → tw_I → tw_Q → Prop} {v w u : Int32} {a b : Nat} {j h : Int64} {s1 s2 s3 s4 : Value}
theorem td_34_0 : decode (tw_cd 34) 0 = .ok (.iload_n 0, 1) := by decide +kernel
theorem tz_34_0 : tw_E sc d 34 0 [some (.int v)] st g mi mr Q = tw_E sc d 34 1 [some (.int v)] (.int v :: st) g mi mr Q := tw_x_iload_n td_34_0 rfl
theorem td_34_1 : decode (tw_cd 34) 1 = .ok (.ifCond .lt 14, 3) := by decide +kernel
theorem tz_34_1 : tw_E sc d 34 1 [x0] (.int v :: st) g mi mr Q = if v < 0 then tw_E sc d 34 15 [x0] st g mi mr Q else tw_E sc d 34 4 [x0] st g mi mr Q := tw_x_if_lt td_34_1 (by decide)
theorem td_34_4 : decode (tw_cd 34) 4 = .ok (.iload_n 0, 1) := by decide +kernel
theorem tz_34_4 : tw_E sc d 34 4 [some (.int v)] st g mi mr Q = tw_E sc d 34 5 [some (.int v)] (.int v :: st) g mi mr Q := tw_x_iload_n td_34_4 rfl
theorem td_34_5 : decode (tw_cd 34) 5 = .ok (.sipush 255, 3) := by decide +kernel
theorem tz_34_5 : tw_E sc d 34 5 [x0] st g mi mr Q = tw_E sc d 34 8 [x0] (.int 255 :: st) g mi mr Q := tw_x_sipush td_34_5 (by decide)
theorem td_34_8 : decode (tw_cd 34) 8 = .ok (.if_icmp .gt 7, 3) := by decide +kernel
theorem tz_34_8 : tw_E sc d 34 8 [x0] (.int w :: .int v :: st) g mi mr Q = if w < v then tw_E sc d 34 15 [x0] st g mi mr Q else tw_E sc d 34 11 [x0] st g mi mr Q := tw_x_ic_gt td_34_8 (by decide)
theorem td_34_11 : decode (tw_cd 34) 11 = .ok (.iconst 1, 1) := by decide +kernel
theorem tz_34_11 : tw_E sc d 34 11 [x0] st g mi mr Q = tw_E sc d 34 12 [x0] (.int 1 :: st) g mi mr Q := tw_x_iconst td_34_11 (by decide)
theorem td_34_12 : decode (tw_cd 34) 12 = .ok (.goto 4, 3) := by decide +kernel
theorem tz_34_12 : tw_E sc d 34 12 [x0] st g mi mr Q = tw_E sc d 34 16 [x0] st g mi mr Q := tw_x_goto td_34_12 (by decide)
theorem td_34_15 : decode (tw_cd 34) 15 = .ok (.iconst 0, 1) := by decide +kernel
theorem tz_34_15 : tw_E sc d 34 15 [x0] st g mi mr Q = tw_E sc d 34 16 [x0] (.int 0 :: st) g mi mr Q := tw_x_iconst td_34_15 (by decide)
theorem td_34_16 : decode (tw_cd 34) 16 = .ok (.ireturn, 1) := by decide +kernel
theorem tz_34_16 : tw_E sc d 34 16 [x0] ([.int v]) g mi mr Q = ((v = 0 ∨ v = 1) ∧ Q (some (.int v)) g mi mr) := tw_x_zret td_34_16 tr_34
end tz_34
-- 35: Tr_init
section tz_35
variable {sc : Nat × (Nat → Int32)} {d : Nat} {x0 x1 : Option Value} {st : List Value} {g : tw_G} {mi : tw_I} {mr : tw_Q} {Q : Option Value → tw_G → tw_I → tw_Q → Prop} {v w u : Int32} {a b : Nat} {j h : Int64} {s1 s2 s3 s4 : Value}
theorem td_35_0 : decode (tw_cd 35) 0 = .ok (.aload_n 0, 1) := by decide +kernel
theorem tz_35_0 : tw_E sc d 35 0 [some (.ref a), x1] st g mi mr Q = tw_E sc d 35 1 [some (.ref a), x1] (.ref a :: st) g mi mr Q := tw_x_aload_n td_35_0 rfl
theorem td_35_1 : decode (tw_cd 35) 1 = .ok (.invokespecial 3, 3) := by decide +kernel
theorem tz_35_1 : tw_E sc (d + 1) 35 1 [x0, x1] (.ref a :: []) g mi mr Q = tw_E sc (d + 1) 35 4 [x0, x1] [] g mi mr Q := tw_x_obj td_35_1 to_35 toi_1 (by simp)
theorem td_35_4 : decode (tw_cd 35) 4 = .ok (.aload_n 0, 1) := by decide +kernel
theorem tz_35_4 : tw_E sc d 35 4 [some (.ref a), x1] st g mi mr Q = tw_E sc d 35 5 [some (.ref a), x1] (.ref a :: st) g mi mr Q := tw_x_aload_n td_35_4 rfl
theorem td_35_5 : decode (tw_cd 35) 5 = .ok (.bipush 60, 2) := by decide +kernel
theorem tz_35_5 : tw_E sc d 35 5 [x0, x1] st g mi mr Q = tw_E sc d 35 7 [x0, x1] (.int 60 :: st) g mi mr Q := tw_x_bipush td_35_5 (by decide)
theorem td_35_7 : decode (tw_cd 35) 7 = .ok (.anewarray 9, 3) := by decide +kernel
theorem tz_35_7 : tw_E sc d 35 7 [x0, x1] (.int 60 :: st) g mi mr Q = tw_E sc d 35 10 [x0, x1] (.ref g.1 :: st) (tw_gn g 22 60 60) (tw_st mi g.1 (fun _ => 0)) (tw_st mr g.1 (fun _ => none)) Q := tw_x_newr td_35_7 to_35 (by decide)
theorem td_35_10 : decode (tw_cd 35) 10 = .ok (.putfield 11, 3) := by decide +kernel
theorem tz_35_10 : tw_E sc d 35 10 [x0, x1] (.ref b :: .ref a :: st) g mi mr Q = (tw_kd g a = 1 ∧ tw_E sc d 35 13 [x0, x1] st g mi (tw_st mr a (tw_st (mr a) 0 (some b))) Q) := tw_x_putr td_35_10 to_35 tf_1_11 (Or.inr ⟨rfl, rfl⟩) (trf_1_0)
theorem td_35_13 : decode (tw_cd 35) 13 = .ok (.iconst 0, 1) := by decide +kernel
theorem tz_35_13 : tw_E sc d 35 13 [x0, x1] st g mi mr Q = tw_E sc d 35 14 [x0, x1] (.int 0 :: st) g mi mr Q := tw_x_iconst td_35_13 (by decide)
theorem td_35_14 : decode (tw_cd 35) 14 = .ok (.istore_n 1, 1) := by decide +kernel
theorem tz_35_14 : tw_E sc d 35 14 [x0, x1] (.int v :: st) g mi mr Q = tw_E sc d 35 15 [x0, some (.int v)] st g mi mr Q := tw_x_istore_n td_35_14 tp_35 rfl
theorem td_35_15 : decode (tw_cd 35) 15 = .ok (.iload_n 1, 1) := by decide +kernel
theorem tz_35_15 : tw_E sc d 35 15 [x0, some (.int v)] st g mi mr Q = tw_E sc d 35 16 [x0, some (.int v)] (.int v :: st) g mi mr Q := tw_x_iload_n td_35_15 rfl
theorem td_35_16 : decode (tw_cd 35) 16 = .ok (.bipush 60, 2) := by decide +kernel
theorem tz_35_16 : tw_E sc d 35 16 [x0, x1] st g mi mr Q = tw_E sc d 35 18 [x0, x1] (.int 60 :: st) g mi mr Q := tw_x_bipush td_35_16 (by decide)
theorem td_35_18 : decode (tw_cd 35) 18 = .ok (.if_icmp .ge 22, 3) := by decide +kernel
theorem tz_35_18 : tw_E sc d 35 18 [x0, x1] (.int w :: .int v :: st) g mi mr Q = if w ≤ v then tw_E sc d 35 40 [x0, x1] st g mi mr Q else tw_E sc d 35 21 [x0, x1] st g mi mr Q := tw_x_ic_ge td_35_18 (by decide)
theorem td_35_21 : decode (tw_cd 35) 21 = .ok (.aload_n 0, 1) := by decide +kernel
theorem tz_35_21 : tw_E sc d 35 21 [some (.ref a), x1] st g mi mr Q = tw_E sc d 35 22 [some (.ref a), x1] (.ref a :: st) g mi mr Q := tw_x_aload_n td_35_21 rfl
theorem td_35_22 : decode (tw_cd 35) 22 = .ok (.getfield 11, 3) := by decide +kernel
theorem tz_35_22 : tw_E sc d 35 22 [x0, x1] (.ref a :: st) g mi mr Q = (tw_kd g a = 1 ∧ tw_E sc d 35 25 [x0, x1] (va_rf (mr a 0) :: st) g mi mr Q) := tw_x_getr td_35_22 to_35 tf_1_11 (trf_1_0)
theorem td_35_25 : decode (tw_cd 35) 25 = .ok (.iload_n 1, 1) := by decide +kernel
theorem tz_35_25 : tw_E sc d 35 25 [x0, some (.int v)] st g mi mr Q = tw_E sc d 35 26 [x0, some (.int v)] (.int v :: st) g mi mr Q := tw_x_iload_n td_35_25 rfl
theorem td_35_26 : decode (tw_cd 35) 26 = .ok (.new 9, 3) := by decide +kernel
theorem tz_35_26 : tw_E sc d 35 26 [x0, x1] st g mi mr Q = tw_E sc d 35 29 [x0, x1] (.ref g.1 :: st) (tw_gn g 2 0 8) (tw_st mi g.1 (fun _ => 0)) (tw_st mr g.1 (fun _ => none)) Q := tw_x_new td_35_26 to_35 tn_1_9 rfl
theorem td_35_29 : decode (tw_cd 35) 29 = .ok (.dup, 1) := by decide +kernel
theorem tz_35_29 : tw_E sc d 35 29 [x0, x1] (.ref a :: st) g mi mr Q = tw_E sc d 35 30 [x0, x1] (.ref a :: .ref a :: st) g mi mr Q := tw_x_dup_ref td_35_29
theorem td_35_30 : decode (tw_cd 35) 30 = .ok (.invokespecial 17, 3) := by decide +kernel
theorem tz_35_30 : tw_E sc (d + 1) 35 30 [x0, x1] ([.ref a, s1, s2, s3]) g mi mr Q = tw_E sc d 44 0 [some (.ref a)] [] g mi mr (tw_K sc (d + 1) 35 33 [x0, x1] [s1, s2, s3] Q) := tw_x_ci (as := []) (r := [s1, s2, s3]) td_35_30 to_35 tin_1_17 tc_1_17 rfl rfl rfl rfl rfl
theorem td_35_33 : decode (tw_cd 35) 33 = .ok (.aastore, 1) := by decide +kernel
theorem tz_35_33 : tw_E sc d 35 33 [x0, x1] (.ref b :: .int v :: .ref a :: st) g mi mr Q = ((tw_kd g a = 22 ∧ tw_kd g b = 2 ∧ vp_in v (tw_ln g a)) ∧ tw_E sc d 35 34 [x0, x1] st g mi (tw_st mr a (tw_st (mr a) v.toNatClampNeg (some b))) Q) := tw_x_aast td_35_33
theorem td_35_34 : decode (tw_cd 35) 34 = .ok (.iinc 1 1, 3) := by decide +kernel
theorem tz_35_34 : tw_E sc d 35 34 [x0, some (.int v)] st g mi mr Q = tw_E sc d 35 37 [x0, some (.int (v + 1))] st g mi mr Q := tw_x_iinc td_35_34 rfl (by first | rfl | (exact congrArg (v + ·) (by decide))) tp_35 rfl
theorem td_35_37 : decode (tw_cd 35) 37 = .ok (.goto (-22), 3) := by decide +kernel
theorem tz_35_37 : tw_E sc d 35 37 [x0, x1] st g mi mr Q = tw_E sc d 35 15 [x0, x1] st g mi mr Q := tw_x_goto td_35_37 (by decide)
theorem td_35_40 : decode (tw_cd 35) 40 = .ok (.return_, 1) := by decide +kernel
theorem tz_35_40 : tw_E sc d 35 40 [x0, x1] [] g mi mr Q = Q none g mi mr := tw_x_vret td_35_40 tr_35
end tz_35
-- 36: Tr_clear
section tz_36
variable {sc : Nat × (Nat → Int32)} {d : Nat} {x0 : Option Value} {st : List Value} {g : tw_G} {mi : tw_I} {mr : tw_Q} {Q : Option Value → tw_G → tw_I → tw_Q → Prop} {v w u : Int32} {a b : Nat} {j h : Int64} {s1 s2 s3 s4 : Value}
theorem td_36_0 : decode (tw_cd 36) 0 = .ok (.aload_n 0, 1) := by decide +kernel
theorem tz_36_0 : tw_E sc d 36 0 [some (.ref a)] st g mi mr Q = tw_E sc d 36 1 [some (.ref a)] (.ref a :: st) g mi mr Q := tw_x_aload_n td_36_0 rfl
theorem td_36_1 : decode (tw_cd 36) 1 = .ok (.iconst 0, 1) := by decide +kernel
theorem tz_36_1 : tw_E sc d 36 1 [x0] st g mi mr Q = tw_E sc d 36 2 [x0] (.int 0 :: st) g mi mr Q := tw_x_iconst td_36_1 (by decide)
theorem td_36_2 : decode (tw_cd 36) 2 = .ok (.putfield 18, 3) := by decide +kernel
theorem tz_36_2 : tw_E sc d 36 2 [x0] (.int v :: .ref a :: st) g mi mr Q = (tw_kd g a = 1 ∧ tw_E sc d 36 5 [x0] st g (tw_st mi a (tw_st (mi a) 1 v)) mr Q) := tw_x_puti td_36_2 to_36 tf_1_18 rfl rfl
theorem td_36_5 : decode (tw_cd 36) 5 = .ok (.return_, 1) := by decide +kernel
theorem tz_36_5 : tw_E sc d 36 5 [x0] [] g mi mr Q = Q none g mi mr := tw_x_vret td_36_5 tr_36
end tz_36
-- 37: Tr_size
section tz_37
variable {sc : Nat × (Nat → Int32)} {d : Nat} {x0 : Option Value} {st : List Value} {g : tw_G} {mi : tw_I} {mr : tw_Q} {Q : Option Value → tw_G → tw_I → tw_Q → Prop} {v w u : Int32} {a b : Nat} {j h : Int64} {s1 s2 s3 s4 : Value}
theorem td_37_0 : decode (tw_cd 37) 0 = .ok (.aload_n 0, 1) := by decide +kernel
theorem tz_37_0 : tw_E sc d 37 0 [some (.ref a)] st g mi mr Q = tw_E sc d 37 1 [some (.ref a)] (.ref a :: st) g mi mr Q := tw_x_aload_n td_37_0 rfl
theorem td_37_1 : decode (tw_cd 37) 1 = .ok (.getfield 18, 3) := by decide +kernel
theorem tz_37_1 : tw_E sc d 37 1 [x0] (.ref a :: st) g mi mr Q = (tw_kd g a = 1 ∧ tw_E sc d 37 4 [x0] (.int (mi a 1) :: st) g mi mr Q) := tw_x_geti td_37_1 to_37 tf_1_18 (trf_1_1)
theorem td_37_4 : decode (tw_cd 37) 4 = .ok (.ireturn, 1) := by decide +kernel
theorem tz_37_4 : tw_E sc d 37 4 [x0] ([.int v]) g mi mr Q = Q (some (.int v)) g mi mr := tw_x_iret td_37_4 tr_37
end tz_37
-- 38: Tr_add
section tz_38
variable {sc : Nat × (Nat → Int32)} {d : Nat} {x0 x1 x2 x3 x4 x5 : Option Value} {st : List Value} {g : tw_G} {mi : tw_I} {mr : tw_Q} {Q : Option Value → tw_G → tw_I → tw_Q → Prop} {v w u : Int32} {a b : Nat} {j h : Int64} {s1 s2 s3 s4 : Value}
theorem td_38_0 : decode (tw_cd 38) 0 = .ok (.aload_n 0, 1) := by decide +kernel
theorem tz_38_0 : tw_E sc d 38 0 [some (.ref a), x1, x2, x3, x4, x5] st g mi mr Q = tw_E sc d 38 1 [some (.ref a), x1, x2, x3, x4, x5] (.ref a :: st) g mi mr Q := tw_x_aload_n td_38_0 rfl
theorem td_38_1 : decode (tw_cd 38) 1 = .ok (.getfield 18, 3) := by decide +kernel
theorem tz_38_1 : tw_E sc d 38 1 [x0, x1, x2, x3, x4, x5] (.ref a :: st) g mi mr Q = (tw_kd g a = 1 ∧ tw_E sc d 38 4 [x0, x1, x2, x3, x4, x5] (.int (mi a 1) :: st) g mi mr Q) := tw_x_geti td_38_1 to_38 tf_1_18 (trf_1_1)
theorem td_38_4 : decode (tw_cd 38) 4 = .ok (.bipush 60, 2) := by decide +kernel
theorem tz_38_4 : tw_E sc d 38 4 [x0, x1, x2, x3, x4, x5] st g mi mr Q = tw_E sc d 38 6 [x0, x1, x2, x3, x4, x5] (.int 60 :: st) g mi mr Q := tw_x_bipush td_38_4 (by decide)
theorem td_38_6 : decode (tw_cd 38) 6 = .ok (.if_icmp .lt 6, 3) := by decide +kernel
theorem tz_38_6 : tw_E sc d 38 6 [x0, x1, x2, x3, x4, x5] (.int w :: .int v :: st) g mi mr Q = if v < w then tw_E sc d 38 12 [x0, x1, x2, x3, x4, x5] st g mi mr Q else tw_E sc d 38 9 [x0, x1, x2, x3, x4, x5] st g mi mr Q := tw_x_ic_lt td_38_6 (by decide)
theorem td_38_9 : decode (tw_cd 38) 9 = .ok (.bipush (-4), 2) := by decide +kernel
theorem tz_38_9 : tw_E sc d 38 9 [x0, x1, x2, x3, x4, x5] st g mi mr Q = tw_E sc d 38 11 [x0, x1, x2, x3, x4, x5] (.int (-4) :: st) g mi mr Q := tw_x_bipush td_38_9 (by decide)
theorem td_38_11 : decode (tw_cd 38) 11 = .ok (.ireturn, 1) := by decide +kernel
theorem tz_38_11 : tw_E sc d 38 11 [x0, x1, x2, x3, x4, x5] ([.int v]) g mi mr Q = Q (some (.int v)) g mi mr := tw_x_iret td_38_11 tr_38
theorem td_38_12 : decode (tw_cd 38) 12 = .ok (.aload_n 0, 1) := by decide +kernel
theorem tz_38_12 : tw_E sc d 38 12 [some (.ref a), x1, x2, x3, x4, x5] st g mi mr Q = tw_E sc d 38 13 [some (.ref a), x1, x2, x3, x4, x5] (.ref a :: st) g mi mr Q := tw_x_aload_n td_38_12 rfl
theorem td_38_13 : decode (tw_cd 38) 13 = .ok (.getfield 11, 3) := by decide +kernel
theorem tz_38_13 : tw_E sc d 38 13 [x0, x1, x2, x3, x4, x5] (.ref a :: st) g mi mr Q = (tw_kd g a = 1 ∧ tw_E sc d 38 16 [x0, x1, x2, x3, x4, x5] (va_rf (mr a 0) :: st) g mi mr Q) := tw_x_getr td_38_13 to_38 tf_1_11 (trf_1_0)
theorem td_38_16 : decode (tw_cd 38) 16 = .ok (.aload_n 0, 1) := by decide +kernel
theorem tz_38_16 : tw_E sc d 38 16 [some (.ref a), x1, x2, x3, x4, x5] st g mi mr Q = tw_E sc d 38 17 [some (.ref a), x1, x2, x3, x4, x5] (.ref a :: st) g mi mr Q := tw_x_aload_n td_38_16 rfl
theorem td_38_17 : decode (tw_cd 38) 17 = .ok (.getfield 18, 3) := by decide +kernel
theorem tz_38_17 : tw_E sc d 38 17 [x0, x1, x2, x3, x4, x5] (.ref a :: st) g mi mr Q = (tw_kd g a = 1 ∧ tw_E sc d 38 20 [x0, x1, x2, x3, x4, x5] (.int (mi a 1) :: st) g mi mr Q) := tw_x_geti td_38_17 to_38 tf_1_18 (trf_1_1)
theorem td_38_20 : decode (tw_cd 38) 20 = .ok (.aaload, 1) := by decide +kernel
theorem tz_38_20 : tw_E sc d 38 20 [x0, x1, x2, x3, x4, x5] (.int v :: .ref a :: st) g mi mr Q = ((tw_kd g a = 22 ∧ vp_in v (tw_ln g a)) ∧ tw_E sc d 38 21 [x0, x1, x2, x3, x4, x5] (va_rf (mr a v.toNatClampNeg) :: st) g mi mr Q) := tw_x_aald td_38_20
theorem td_38_21 : decode (tw_cd 38) 21 = .ok (.iload_n 1, 1) := by decide +kernel
theorem tz_38_21 : tw_E sc d 38 21 [x0, some (.int v), x2, x3, x4, x5] st g mi mr Q = tw_E sc d 38 22 [x0, some (.int v), x2, x3, x4, x5] (.int v :: st) g mi mr Q := tw_x_iload_n td_38_21 rfl
theorem td_38_22 : decode (tw_cd 38) 22 = .ok (.iload_n 2, 1) := by decide +kernel
theorem tz_38_22 : tw_E sc d 38 22 [x0, x1, some (.int v), x3, x4, x5] st g mi mr Q = tw_E sc d 38 23 [x0, x1, some (.int v), x3, x4, x5] (.int v :: st) g mi mr Q := tw_x_iload_n td_38_22 rfl
theorem td_38_23 : decode (tw_cd 38) 23 = .ok (.iload_n 3, 1) := by decide +kernel
theorem tz_38_23 : tw_E sc d 38 23 [x0, x1, x2, some (.int v), x4, x5] st g mi mr Q = tw_E sc d 38 24 [x0, x1, x2, some (.int v), x4, x5] (.int v :: st) g mi mr Q := tw_x_iload_n td_38_23 rfl
theorem td_38_24 : decode (tw_cd 38) 24 = .ok (.iload 4, 2) := by decide +kernel
theorem tz_38_24 : tw_E sc d 38 24 [x0, x1, x2, x3, some (.int v), x5] st g mi mr Q = tw_E sc d 38 26 [x0, x1, x2, x3, some (.int v), x5] (.int v :: st) g mi mr Q := tw_x_iload td_38_24 rfl
theorem td_38_26 : decode (tw_cd 38) 26 = .ok (.iload 5, 2) := by decide +kernel
theorem tz_38_26 : tw_E sc d 38 26 [x0, x1, x2, x3, x4, some (.int v)] st g mi mr Q = tw_E sc d 38 28 [x0, x1, x2, x3, x4, some (.int v)] (.int v :: st) g mi mr Q := tw_x_iload td_38_26 rfl
theorem td_38_28 : decode (tw_cd 38) 28 = .ok (.invokevirtual 22, 3) := by decide +kernel
theorem tz_38_28 {a0 : Int32} {a1 : Int32} {a2 : Int32} {a3 : Int32} {a4 : Int32} : tw_E sc (d + 1) 38 28 [x0, x1, x2, x3, x4, x5] ([.int a4, .int a3, .int a2, .int a1, .int a0, .ref a]) g mi mr Q = (tw_kd g a = 2 ∧ tw_E sc d 45 0 [some (.ref a), some (.int a0), some (.int a1), some (.int a2), some (.int a3), some (.int a4)] [] g mi mr (tw_K sc (d + 1) 38 31 [x0, x1, x2, x3, x4, x5] [] Q)) := tw_x_cv (as := [.int a0, .int a1, .int a2, .int a3, .int a4]) (r := []) td_38_28 to_38 tc_1_22 to_45 rfl rfl rfl rfl
theorem td_38_31 : decode (tw_cd 38) 31 = .ok (.aload_n 0, 1) := by decide +kernel
theorem tz_38_31 : tw_E sc d 38 31 [some (.ref a), x1, x2, x3, x4, x5] st g mi mr Q = tw_E sc d 38 32 [some (.ref a), x1, x2, x3, x4, x5] (.ref a :: st) g mi mr Q := tw_x_aload_n td_38_31 rfl
theorem td_38_32 : decode (tw_cd 38) 32 = .ok (.dup, 1) := by decide +kernel
theorem tz_38_32 : tw_E sc d 38 32 [x0, x1, x2, x3, x4, x5] (.ref a :: st) g mi mr Q = tw_E sc d 38 33 [x0, x1, x2, x3, x4, x5] (.ref a :: .ref a :: st) g mi mr Q := tw_x_dup_ref td_38_32
theorem td_38_33 : decode (tw_cd 38) 33 = .ok (.getfield 18, 3) := by decide +kernel
theorem tz_38_33 : tw_E sc d 38 33 [x0, x1, x2, x3, x4, x5] (.ref a :: st) g mi mr Q = (tw_kd g a = 1 ∧ tw_E sc d 38 36 [x0, x1, x2, x3, x4, x5] (.int (mi a 1) :: st) g mi mr Q) := tw_x_geti td_38_33 to_38 tf_1_18 (trf_1_1)
theorem td_38_36 : decode (tw_cd 38) 36 = .ok (.iconst 1, 1) := by decide +kernel
theorem tz_38_36 : tw_E sc d 38 36 [x0, x1, x2, x3, x4, x5] st g mi mr Q = tw_E sc d 38 37 [x0, x1, x2, x3, x4, x5] (.int 1 :: st) g mi mr Q := tw_x_iconst td_38_36 (by decide)
theorem td_38_37 : decode (tw_cd 38) 37 = .ok (.iadd, 1) := by decide +kernel
theorem tz_38_37 : tw_E sc d 38 37 [x0, x1, x2, x3, x4, x5] (.int w :: .int v :: st) g mi mr Q = tw_E sc d 38 38 [x0, x1, x2, x3, x4, x5] (.int (v + w) :: st) g mi mr Q := tw_x_iadd td_38_37
theorem td_38_38 : decode (tw_cd 38) 38 = .ok (.putfield 18, 3) := by decide +kernel
theorem tz_38_38 : tw_E sc d 38 38 [x0, x1, x2, x3, x4, x5] (.int v :: .ref a :: st) g mi mr Q = (tw_kd g a = 1 ∧ tw_E sc d 38 41 [x0, x1, x2, x3, x4, x5] st g (tw_st mi a (tw_st (mi a) 1 v)) mr Q) := tw_x_puti td_38_38 to_38 tf_1_18 rfl rfl
theorem td_38_41 : decode (tw_cd 38) 41 = .ok (.aload_n 0, 1) := by decide +kernel
theorem tz_38_41 : tw_E sc d 38 41 [some (.ref a), x1, x2, x3, x4, x5] st g mi mr Q = tw_E sc d 38 42 [some (.ref a), x1, x2, x3, x4, x5] (.ref a :: st) g mi mr Q := tw_x_aload_n td_38_41 rfl
theorem td_38_42 : decode (tw_cd 38) 42 = .ok (.getfield 18, 3) := by decide +kernel
theorem tz_38_42 : tw_E sc d 38 42 [x0, x1, x2, x3, x4, x5] (.ref a :: st) g mi mr Q = (tw_kd g a = 1 ∧ tw_E sc d 38 45 [x0, x1, x2, x3, x4, x5] (.int (mi a 1) :: st) g mi mr Q) := tw_x_geti td_38_42 to_38 tf_1_18 (trf_1_1)
theorem td_38_45 : decode (tw_cd 38) 45 = .ok (.iconst 1, 1) := by decide +kernel
theorem tz_38_45 : tw_E sc d 38 45 [x0, x1, x2, x3, x4, x5] st g mi mr Q = tw_E sc d 38 46 [x0, x1, x2, x3, x4, x5] (.int 1 :: st) g mi mr Q := tw_x_iconst td_38_45 (by decide)
theorem td_38_46 : decode (tw_cd 38) 46 = .ok (.isub, 1) := by decide +kernel
theorem tz_38_46 : tw_E sc d 38 46 [x0, x1, x2, x3, x4, x5] (.int w :: .int v :: st) g mi mr Q = tw_E sc d 38 47 [x0, x1, x2, x3, x4, x5] (.int (v - w) :: st) g mi mr Q := tw_x_isub td_38_46
theorem td_38_47 : decode (tw_cd 38) 47 = .ok (.ireturn, 1) := by decide +kernel
theorem tz_38_47 : tw_E sc d 38 47 [x0, x1, x2, x3, x4, x5] ([.int v]) g mi mr Q = Q (some (.int v)) g mi mr := tw_x_iret td_38_47 tr_38
end tz_38
-- 39: Tr_nodeAt
section tz_39
variable {sc : Nat × (Nat → Int32)} {d : Nat} {x0 x1 : Option Value} {st : List Value} {g : tw_G} {mi : tw_I} {mr : tw_Q} {Q : Option Value → tw_G → tw_I → tw_Q → Prop} {v w u : Int32} {a b : Nat} {j h : Int64} {s1 s2 s3 s4 : Value}
theorem td_39_0 : decode (tw_cd 39) 0 = .ok (.iload_n 1, 1) := by decide +kernel
theorem tz_39_0 : tw_E sc d 39 0 [x0, some (.int v)] st g mi mr Q = tw_E sc d 39 1 [x0, some (.int v)] (.int v :: st) g mi mr Q := tw_x_iload_n td_39_0 rfl
theorem td_39_1 : decode (tw_cd 39) 1 = .ok (.ifCond .lt 20, 3) := by decide +kernel
theorem tz_39_1 : tw_E sc d 39 1 [x0, x1] (.int v :: st) g mi mr Q = if v < 0 then tw_E sc d 39 21 [x0, x1] st g mi mr Q else tw_E sc d 39 4 [x0, x1] st g mi mr Q := tw_x_if_lt td_39_1 (by decide)
theorem td_39_4 : decode (tw_cd 39) 4 = .ok (.iload_n 1, 1) := by decide +kernel
theorem tz_39_4 : tw_E sc d 39 4 [x0, some (.int v)] st g mi mr Q = tw_E sc d 39 5 [x0, some (.int v)] (.int v :: st) g mi mr Q := tw_x_iload_n td_39_4 rfl
theorem td_39_5 : decode (tw_cd 39) 5 = .ok (.aload_n 0, 1) := by decide +kernel
theorem tz_39_5 : tw_E sc d 39 5 [some (.ref a), x1] st g mi mr Q = tw_E sc d 39 6 [some (.ref a), x1] (.ref a :: st) g mi mr Q := tw_x_aload_n td_39_5 rfl
theorem td_39_6 : decode (tw_cd 39) 6 = .ok (.getfield 18, 3) := by decide +kernel
theorem tz_39_6 : tw_E sc d 39 6 [x0, x1] (.ref a :: st) g mi mr Q = (tw_kd g a = 1 ∧ tw_E sc d 39 9 [x0, x1] (.int (mi a 1) :: st) g mi mr Q) := tw_x_geti td_39_6 to_39 tf_1_18 (trf_1_1)
theorem td_39_9 : decode (tw_cd 39) 9 = .ok (.if_icmp .ge 12, 3) := by decide +kernel
theorem tz_39_9 : tw_E sc d 39 9 [x0, x1] (.int w :: .int v :: st) g mi mr Q = if w ≤ v then tw_E sc d 39 21 [x0, x1] st g mi mr Q else tw_E sc d 39 12 [x0, x1] st g mi mr Q := tw_x_ic_ge td_39_9 (by decide)
theorem td_39_12 : decode (tw_cd 39) 12 = .ok (.aload_n 0, 1) := by decide +kernel
theorem tz_39_12 : tw_E sc d 39 12 [some (.ref a), x1] st g mi mr Q = tw_E sc d 39 13 [some (.ref a), x1] (.ref a :: st) g mi mr Q := tw_x_aload_n td_39_12 rfl
theorem td_39_13 : decode (tw_cd 39) 13 = .ok (.getfield 11, 3) := by decide +kernel
theorem tz_39_13 : tw_E sc d 39 13 [x0, x1] (.ref a :: st) g mi mr Q = (tw_kd g a = 1 ∧ tw_E sc d 39 16 [x0, x1] (va_rf (mr a 0) :: st) g mi mr Q) := tw_x_getr td_39_13 to_39 tf_1_11 (trf_1_0)
theorem td_39_16 : decode (tw_cd 39) 16 = .ok (.iload_n 1, 1) := by decide +kernel
theorem tz_39_16 : tw_E sc d 39 16 [x0, some (.int v)] st g mi mr Q = tw_E sc d 39 17 [x0, some (.int v)] (.int v :: st) g mi mr Q := tw_x_iload_n td_39_16 rfl
theorem td_39_17 : decode (tw_cd 39) 17 = .ok (.aaload, 1) := by decide +kernel
theorem tz_39_17 : tw_E sc d 39 17 [x0, x1] (.int v :: .ref a :: st) g mi mr Q = ((tw_kd g a = 22 ∧ vp_in v (tw_ln g a)) ∧ tw_E sc d 39 18 [x0, x1] (va_rf (mr a v.toNatClampNeg) :: st) g mi mr Q) := tw_x_aald td_39_17
theorem td_39_18 : decode (tw_cd 39) 18 = .ok (.goto 4, 3) := by decide +kernel
theorem tz_39_18 : tw_E sc d 39 18 [x0, x1] st g mi mr Q = tw_E sc d 39 22 [x0, x1] st g mi mr Q := tw_x_goto td_39_18 (by decide)
theorem td_39_21 : decode (tw_cd 39) 21 = .ok (.aconst_null, 1) := by decide +kernel
theorem tz_39_21 : tw_E sc d 39 21 [x0, x1] st g mi mr Q = tw_E sc d 39 22 [x0, x1] (.null :: st) g mi mr Q := tw_x_aconst_null td_39_21
theorem td_39_22 : decode (tw_cd 39) 22 = .ok (.areturn, 1) := by decide +kernel
theorem tz_39_22 : tw_E sc d 39 22 [x0, x1] ([.ref a]) g mi mr Q = Q (some (.ref a)) g mi mr := tw_x_aret td_39_22 tr_39
theorem tz_39_22n : tw_E sc d 39 22 [x0, x1] [.null] g mi mr Q = Q (some .null) g mi mr := tw_x_aretN td_39_22 tr_39
end tz_39
-- 40: Tr_rest
section tz_40
variable {sc : Nat × (Nat → Int32)} {d : Nat} {x0 x1 : Option Value} {st : List Value} {g : tw_G} {mi : tw_I} {mr : tw_Q} {Q : Option Value → tw_G → tw_I → tw_Q → Prop} {v w u : Int32} {a b : Nat} {j h : Int64} {s1 s2 s3 s4 : Value}
theorem td_40_0 : decode (tw_cd 40) 0 = .ok (.iconst 0, 1) := by decide +kernel
theorem tz_40_0 : tw_E sc d 40 0 [x0, x1] st g mi mr Q = tw_E sc d 40 1 [x0, x1] (.int 0 :: st) g mi mr Q := tw_x_iconst td_40_0 (by decide)
theorem td_40_1 : decode (tw_cd 40) 1 = .ok (.istore_n 1, 1) := by decide +kernel
theorem tz_40_1 : tw_E sc d 40 1 [x0, x1] (.int v :: st) g mi mr Q = tw_E sc d 40 2 [x0, some (.int v)] st g mi mr Q := tw_x_istore_n td_40_1 tp_40 rfl
theorem td_40_2 : decode (tw_cd 40) 2 = .ok (.iload_n 1, 1) := by decide +kernel
theorem tz_40_2 : tw_E sc d 40 2 [x0, some (.int v)] st g mi mr Q = tw_E sc d 40 3 [x0, some (.int v)] (.int v :: st) g mi mr Q := tw_x_iload_n td_40_2 rfl
theorem td_40_3 : decode (tw_cd 40) 3 = .ok (.aload_n 0, 1) := by decide +kernel
theorem tz_40_3 : tw_E sc d 40 3 [some (.ref a), x1] st g mi mr Q = tw_E sc d 40 4 [some (.ref a), x1] (.ref a :: st) g mi mr Q := tw_x_aload_n td_40_3 rfl
theorem td_40_4 : decode (tw_cd 40) 4 = .ok (.getfield 18, 3) := by decide +kernel
theorem tz_40_4 : tw_E sc d 40 4 [x0, x1] (.ref a :: st) g mi mr Q = (tw_kd g a = 1 ∧ tw_E sc d 40 7 [x0, x1] (.int (mi a 1) :: st) g mi mr Q) := tw_x_geti td_40_4 to_40 tf_1_18 (trf_1_1)
theorem td_40_7 : decode (tw_cd 40) 7 = .ok (.if_icmp .ge 18, 3) := by decide +kernel
theorem tz_40_7 : tw_E sc d 40 7 [x0, x1] (.int w :: .int v :: st) g mi mr Q = if w ≤ v then tw_E sc d 40 25 [x0, x1] st g mi mr Q else tw_E sc d 40 10 [x0, x1] st g mi mr Q := tw_x_ic_ge td_40_7 (by decide)
theorem td_40_10 : decode (tw_cd 40) 10 = .ok (.aload_n 0, 1) := by decide +kernel
theorem tz_40_10 : tw_E sc d 40 10 [some (.ref a), x1] st g mi mr Q = tw_E sc d 40 11 [some (.ref a), x1] (.ref a :: st) g mi mr Q := tw_x_aload_n td_40_10 rfl
theorem td_40_11 : decode (tw_cd 40) 11 = .ok (.getfield 11, 3) := by decide +kernel
theorem tz_40_11 : tw_E sc d 40 11 [x0, x1] (.ref a :: st) g mi mr Q = (tw_kd g a = 1 ∧ tw_E sc d 40 14 [x0, x1] (va_rf (mr a 0) :: st) g mi mr Q) := tw_x_getr td_40_11 to_40 tf_1_11 (trf_1_0)
theorem td_40_14 : decode (tw_cd 40) 14 = .ok (.iload_n 1, 1) := by decide +kernel
theorem tz_40_14 : tw_E sc d 40 14 [x0, some (.int v)] st g mi mr Q = tw_E sc d 40 15 [x0, some (.int v)] (.int v :: st) g mi mr Q := tw_x_iload_n td_40_14 rfl
theorem td_40_15 : decode (tw_cd 40) 15 = .ok (.aaload, 1) := by decide +kernel
theorem tz_40_15 : tw_E sc d 40 15 [x0, x1] (.int v :: .ref a :: st) g mi mr Q = ((tw_kd g a = 22 ∧ vp_in v (tw_ln g a)) ∧ tw_E sc d 40 16 [x0, x1] (va_rf (mr a v.toNatClampNeg) :: st) g mi mr Q) := tw_x_aald td_40_15
theorem td_40_16 : decode (tw_cd 40) 16 = .ok (.invokevirtual 26, 3) := by decide +kernel
theorem tz_40_16 : tw_E sc (d + 1) 40 16 [x0, x1] ([.ref a]) g mi mr Q = (tw_kd g a = 2 ∧ tw_E sc d 46 0 [some (.ref a)] [] g mi mr (tw_K sc (d + 1) 40 19 [x0, x1] [] Q)) := tw_x_cv (as := []) (r := []) td_40_16 to_40 tc_1_26 to_46 rfl rfl rfl rfl
theorem td_40_19 : decode (tw_cd 40) 19 = .ok (.iinc 1 1, 3) := by decide +kernel
theorem tz_40_19 : tw_E sc d 40 19 [x0, some (.int v)] st g mi mr Q = tw_E sc d 40 22 [x0, some (.int (v + 1))] st g mi mr Q := tw_x_iinc td_40_19 rfl (by first | rfl | (exact congrArg (v + ·) (by decide))) tp_40 rfl
theorem td_40_22 : decode (tw_cd 40) 22 = .ok (.goto (-20), 3) := by decide +kernel
theorem tz_40_22 : tw_E sc d 40 22 [x0, x1] st g mi mr Q = tw_E sc d 40 2 [x0, x1] st g mi mr Q := tw_x_goto td_40_22 (by decide)
theorem td_40_25 : decode (tw_cd 40) 25 = .ok (.return_, 1) := by decide +kernel
theorem tz_40_25 : tw_E sc d 40 25 [x0, x1] [] g mi mr Q = Q none g mi mr := tw_x_vret td_40_25 tr_40
end tz_40
-- 41: Tr_step
section tz_41
variable {sc : Nat × (Nat → Int32)} {d : Nat} {x0 x1 x2 x3 x4 : Option Value} {st : List Value} {g : tw_G} {mi : tw_I} {mr : tw_Q} {Q : Option Value → tw_G → tw_I → tw_Q → Prop} {v w u : Int32} {a b : Nat} {j h : Int64} {s1 s2 s3 s4 : Value}
theorem td_41_0 : decode (tw_cd 41) 0 = .ok (.iconst 0, 1) := by decide +kernel
theorem tz_41_0 : tw_E sc d 41 0 [x0, x1, x2, x3, x4] st g mi mr Q = tw_E sc d 41 1 [x0, x1, x2, x3, x4] (.int 0 :: st) g mi mr Q := tw_x_iconst td_41_0 (by decide)
theorem td_41_1 : decode (tw_cd 41) 1 = .ok (.istore 4, 2) := by decide +kernel
theorem tz_41_1 : tw_E sc d 41 1 [x0, x1, x2, x3, x4] (.int v :: st) g mi mr Q = tw_E sc d 41 3 [x0, x1, x2, x3, some (.int v)] st g mi mr Q := tw_x_istore td_41_1 tp_41 rfl
theorem td_41_3 : decode (tw_cd 41) 3 = .ok (.iload 4, 2) := by decide +kernel
theorem tz_41_3 : tw_E sc d 41 3 [x0, x1, x2, x3, some (.int v)] st g mi mr Q = tw_E sc d 41 5 [x0, x1, x2, x3, some (.int v)] (.int v :: st) g mi mr Q := tw_x_iload td_41_3 rfl
theorem td_41_5 : decode (tw_cd 41) 5 = .ok (.aload_n 0, 1) := by decide +kernel
theorem tz_41_5 : tw_E sc d 41 5 [some (.ref a), x1, x2, x3, x4] st g mi mr Q = tw_E sc d 41 6 [some (.ref a), x1, x2, x3, x4] (.ref a :: st) g mi mr Q := tw_x_aload_n td_41_5 rfl
theorem td_41_6 : decode (tw_cd 41) 6 = .ok (.getfield 18, 3) := by decide +kernel
theorem tz_41_6 : tw_E sc d 41 6 [x0, x1, x2, x3, x4] (.ref a :: st) g mi mr Q = (tw_kd g a = 1 ∧ tw_E sc d 41 9 [x0, x1, x2, x3, x4] (.int (mi a 1) :: st) g mi mr Q) := tw_x_geti td_41_6 to_41 tf_1_18 (trf_1_1)
theorem td_41_9 : decode (tw_cd 41) 9 = .ok (.if_icmp .ge 23, 3) := by decide +kernel
theorem tz_41_9 : tw_E sc d 41 9 [x0, x1, x2, x3, x4] (.int w :: .int v :: st) g mi mr Q = if w ≤ v then tw_E sc d 41 32 [x0, x1, x2, x3, x4] st g mi mr Q else tw_E sc d 41 12 [x0, x1, x2, x3, x4] st g mi mr Q := tw_x_ic_ge td_41_9 (by decide)
theorem td_41_12 : decode (tw_cd 41) 12 = .ok (.aload_n 0, 1) := by decide +kernel
theorem tz_41_12 : tw_E sc d 41 12 [some (.ref a), x1, x2, x3, x4] st g mi mr Q = tw_E sc d 41 13 [some (.ref a), x1, x2, x3, x4] (.ref a :: st) g mi mr Q := tw_x_aload_n td_41_12 rfl
theorem td_41_13 : decode (tw_cd 41) 13 = .ok (.aload_n 0, 1) := by decide +kernel
theorem tz_41_13 : tw_E sc d 41 13 [some (.ref a), x1, x2, x3, x4] st g mi mr Q = tw_E sc d 41 14 [some (.ref a), x1, x2, x3, x4] (.ref a :: st) g mi mr Q := tw_x_aload_n td_41_13 rfl
theorem td_41_14 : decode (tw_cd 41) 14 = .ok (.getfield 11, 3) := by decide +kernel
theorem tz_41_14 : tw_E sc d 41 14 [x0, x1, x2, x3, x4] (.ref a :: st) g mi mr Q = (tw_kd g a = 1 ∧ tw_E sc d 41 17 [x0, x1, x2, x3, x4] (va_rf (mr a 0) :: st) g mi mr Q) := tw_x_getr td_41_14 to_41 tf_1_11 (trf_1_0)
theorem td_41_17 : decode (tw_cd 41) 17 = .ok (.iload 4, 2) := by decide +kernel
theorem tz_41_17 : tw_E sc d 41 17 [x0, x1, x2, x3, some (.int v)] st g mi mr Q = tw_E sc d 41 19 [x0, x1, x2, x3, some (.int v)] (.int v :: st) g mi mr Q := tw_x_iload td_41_17 rfl
theorem td_41_19 : decode (tw_cd 41) 19 = .ok (.aaload, 1) := by decide +kernel
theorem tz_41_19 : tw_E sc d 41 19 [x0, x1, x2, x3, x4] (.int v :: .ref a :: st) g mi mr Q = ((tw_kd g a = 22 ∧ vp_in v (tw_ln g a)) ∧ tw_E sc d 41 20 [x0, x1, x2, x3, x4] (va_rf (mr a v.toNatClampNeg) :: st) g mi mr Q) := tw_x_aald td_41_19
theorem td_41_20 : decode (tw_cd 41) 20 = .ok (.iload_n 1, 1) := by decide +kernel
theorem tz_41_20 : tw_E sc d 41 20 [x0, some (.int v), x2, x3, x4] st g mi mr Q = tw_E sc d 41 21 [x0, some (.int v), x2, x3, x4] (.int v :: st) g mi mr Q := tw_x_iload_n td_41_20 rfl
theorem td_41_21 : decode (tw_cd 41) 21 = .ok (.iload_n 2, 1) := by decide +kernel
theorem tz_41_21 : tw_E sc d 41 21 [x0, x1, some (.int v), x3, x4] st g mi mr Q = tw_E sc d 41 22 [x0, x1, some (.int v), x3, x4] (.int v :: st) g mi mr Q := tw_x_iload_n td_41_21 rfl
theorem td_41_22 : decode (tw_cd 41) 22 = .ok (.iload_n 3, 1) := by decide +kernel
theorem tz_41_22 : tw_E sc d 41 22 [x0, x1, x2, some (.int v), x4] st g mi mr Q = tw_E sc d 41 23 [x0, x1, x2, some (.int v), x4] (.int v :: st) g mi mr Q := tw_x_iload_n td_41_22 rfl
theorem td_41_23 : decode (tw_cd 41) 23 = .ok (.invokevirtual 29, 3) := by decide +kernel
theorem tz_41_23 {a0 : Nat} {a1 : Int32} {a2 : Int32} {a3 : Int32} : tw_E sc (d + 1) 41 23 [x0, x1, x2, x3, x4] ([.int a3, .int a2, .int a1, .ref a0, .ref a]) g mi mr Q = (tw_kd g a = 1 ∧ tw_E sc d 42 0 [some (.ref a), some (.ref a0), some (.int a1), some (.int a2), some (.int a3)] [] g mi mr (tw_K sc (d + 1) 41 26 [x0, x1, x2, x3, x4] [] Q)) := tw_x_cv (as := [.ref a0, .int a1, .int a2, .int a3]) (r := []) td_41_23 to_41 tc_1_29 to_42 rfl rfl rfl rfl
theorem td_41_26 : decode (tw_cd 41) 26 = .ok (.iinc 4 1, 3) := by decide +kernel
theorem tz_41_26 : tw_E sc d 41 26 [x0, x1, x2, x3, some (.int v)] st g mi mr Q = tw_E sc d 41 29 [x0, x1, x2, x3, some (.int (v + 1))] st g mi mr Q := tw_x_iinc td_41_26 rfl (by first | rfl | (exact congrArg (v + ·) (by decide))) tp_41 rfl
theorem td_41_29 : decode (tw_cd 41) 29 = .ok (.goto (-26), 3) := by decide +kernel
theorem tz_41_29 : tw_E sc d 41 29 [x0, x1, x2, x3, x4] st g mi mr Q = tw_E sc d 41 3 [x0, x1, x2, x3, x4] st g mi mr Q := tw_x_goto td_41_29 (by decide)
theorem td_41_32 : decode (tw_cd 41) 32 = .ok (.aload_n 0, 1) := by decide +kernel
theorem tz_41_32 : tw_E sc d 41 32 [some (.ref a), x1, x2, x3, x4] st g mi mr Q = tw_E sc d 41 33 [some (.ref a), x1, x2, x3, x4] (.ref a :: st) g mi mr Q := tw_x_aload_n td_41_32 rfl
theorem td_41_33 : decode (tw_cd 41) 33 = .ok (.aload_n 0, 1) := by decide +kernel
theorem tz_41_33 : tw_E sc d 41 33 [some (.ref a), x1, x2, x3, x4] st g mi mr Q = tw_E sc d 41 34 [some (.ref a), x1, x2, x3, x4] (.ref a :: st) g mi mr Q := tw_x_aload_n td_41_33 rfl
theorem td_41_34 : decode (tw_cd 41) 34 = .ok (.getfield 18, 3) := by decide +kernel
theorem tz_41_34 : tw_E sc d 41 34 [x0, x1, x2, x3, x4] (.ref a :: st) g mi mr Q = (tw_kd g a = 1 ∧ tw_E sc d 41 37 [x0, x1, x2, x3, x4] (.int (mi a 1) :: st) g mi mr Q) := tw_x_geti td_41_34 to_41 tf_1_18 (trf_1_1)
theorem td_41_37 : decode (tw_cd 41) 37 = .ok (.iconst 1, 1) := by decide +kernel
theorem tz_41_37 : tw_E sc d 41 37 [x0, x1, x2, x3, x4] st g mi mr Q = tw_E sc d 41 38 [x0, x1, x2, x3, x4] (.int 1 :: st) g mi mr Q := tw_x_iconst td_41_37 (by decide)
theorem td_41_38 : decode (tw_cd 41) 38 = .ok (.isub, 1) := by decide +kernel
theorem tz_41_38 : tw_E sc d 41 38 [x0, x1, x2, x3, x4] (.int w :: .int v :: st) g mi mr Q = tw_E sc d 41 39 [x0, x1, x2, x3, x4] (.int (v - w) :: st) g mi mr Q := tw_x_isub td_41_38
theorem td_41_39 : decode (tw_cd 41) 39 = .ok (.invokevirtual 33, 3) := by decide +kernel
theorem tz_41_39 {a0 : Int32} : tw_E sc (d + 1) 41 39 [x0, x1, x2, x3, x4] ([.int a0, .ref a]) g mi mr Q = (tw_kd g a = 1 ∧ tw_E sc d 43 0 [some (.ref a), some (.int a0), none] [] g mi mr (tw_K sc (d + 1) 41 42 [x0, x1, x2, x3, x4] [] Q)) := tw_x_cv (as := [.int a0]) (r := []) td_41_39 to_41 tc_1_33 to_43 rfl rfl rfl rfl
theorem td_41_42 : decode (tw_cd 41) 42 = .ok (.ireturn, 1) := by decide +kernel
theorem tz_41_42 : tw_E sc d 41 42 [x0, x1, x2, x3, x4] ([.int v]) g mi mr Q = ((v = 0 ∨ v = 1) ∧ Q (some (.int v)) g mi mr) := tw_x_zret td_41_42 tr_41
end tz_41
-- 42: Tr_stepNode
section tz_42
variable {sc : Nat × (Nat → Int32)} {d : Nat} {x0 x1 x2 x3 x4 : Option Value} {st : List Value} {g : tw_G} {mi : tw_I} {mr : tw_Q} {Q : Option Value → tw_G → tw_I → tw_Q → Prop} {v w u : Int32} {a b : Nat} {j h : Int64} {s1 s2 s3 s4 : Value}
theorem td_42_0 : decode (tw_cd 42) 0 = .ok (.aload_n 1, 1) := by decide +kernel
theorem tz_42_0 : tw_E sc d 42 0 [x0, some (.ref a), x2, x3, x4] st g mi mr Q = tw_E sc d 42 1 [x0, some (.ref a), x2, x3, x4] (.ref a :: st) g mi mr Q := tw_x_aload_n td_42_0 rfl
theorem tz_42_0n : tw_E sc d 42 0 [x0, some .null, x2, x3, x4] st g mi mr Q = tw_E sc d 42 1 [x0, some .null, x2, x3, x4] (.null :: st) g mi mr Q := tw_x_aload_nN td_42_0 rfl
theorem td_42_1 : decode (tw_cd 42) 1 = .ok (.getfield 37, 3) := by decide +kernel
theorem tz_42_1 : tw_E sc d 42 1 [x0, x1, x2, x3, x4] (.ref a :: st) g mi mr Q = (tw_kd g a = 2 ∧ tw_E sc d 42 4 [x0, x1, x2, x3, x4] (.int (mi a 0) :: st) g mi mr Q) := tw_x_geti td_42_1 to_42 tf_1_37 (trf_2_0)
theorem td_42_4 : decode (tw_cd 42) 4 = .ok (.tableswitch 117 2 7 #[40, 55, 55, 78, 93, 93], 40) := by decide +kernel
theorem tz_42_4 : tw_E sc d 42 4 [x0, x1, x2, x3, x4] (.int v :: st) g mi mr Q = tw_E sc d 42 (tw_sw v 2 [44, 59, 59, 82, 97, 97] 121) [x0, x1, x2, x3, x4] st g mi mr Q := tw_x_ts td_42_4 (by decide) (by decide) (by decide)
theorem td_42_44 : decode (tw_cd 42) 44 = .ok (.aload_n 1, 1) := by decide +kernel
theorem tz_42_44 : tw_E sc d 42 44 [x0, some (.ref a), x2, x3, x4] st g mi mr Q = tw_E sc d 42 45 [x0, some (.ref a), x2, x3, x4] (.ref a :: st) g mi mr Q := tw_x_aload_n td_42_44 rfl
theorem tz_42_44n : tw_E sc d 42 44 [x0, some .null, x2, x3, x4] st g mi mr Q = tw_E sc d 42 45 [x0, some .null, x2, x3, x4] (.null :: st) g mi mr Q := tw_x_aload_nN td_42_44 rfl
theorem td_42_45 : decode (tw_cd 42) 45 = .ok (.aload_n 0, 1) := by decide +kernel
theorem tz_42_45 : tw_E sc d 42 45 [some (.ref a), x1, x2, x3, x4] st g mi mr Q = tw_E sc d 42 46 [some (.ref a), x1, x2, x3, x4] (.ref a :: st) g mi mr Q := tw_x_aload_n td_42_45 rfl
theorem td_42_46 : decode (tw_cd 42) 46 = .ok (.aload_n 1, 1) := by decide +kernel
theorem tz_42_46 : tw_E sc d 42 46 [x0, some (.ref a), x2, x3, x4] st g mi mr Q = tw_E sc d 42 47 [x0, some (.ref a), x2, x3, x4] (.ref a :: st) g mi mr Q := tw_x_aload_n td_42_46 rfl
theorem tz_42_46n : tw_E sc d 42 46 [x0, some .null, x2, x3, x4] st g mi mr Q = tw_E sc d 42 47 [x0, some .null, x2, x3, x4] (.null :: st) g mi mr Q := tw_x_aload_nN td_42_46 rfl
theorem td_42_47 : decode (tw_cd 42) 47 = .ok (.getfield 40, 3) := by decide +kernel
theorem tz_42_47 : tw_E sc d 42 47 [x0, x1, x2, x3, x4] (.ref a :: st) g mi mr Q = (tw_kd g a = 2 ∧ tw_E sc d 42 50 [x0, x1, x2, x3, x4] (.int (mi a 1) :: st) g mi mr Q) := tw_x_geti td_42_47 to_42 tf_1_40 (trf_2_1)
theorem td_42_50 : decode (tw_cd 42) 50 = .ok (.invokevirtual 33, 3) := by decide +kernel
theorem tz_42_50 {a0 : Int32} : tw_E sc (d + 1) 42 50 [x0, x1, x2, x3, x4] ([.int a0, .ref a, s1]) g mi mr Q = (tw_kd g a = 1 ∧ tw_E sc d 43 0 [some (.ref a), some (.int a0), none] [] g mi mr (tw_K sc (d + 1) 42 53 [x0, x1, x2, x3, x4] [s1] Q)) := tw_x_cv (as := [.int a0]) (r := [s1]) td_42_50 to_42 tc_1_33 to_43 rfl rfl rfl rfl
theorem td_42_53 : decode (tw_cd 42) 53 = .ok (.invokevirtual 43, 3) := by decide +kernel
theorem tz_42_53 {a0 : Int32} : tw_E sc (d + 1) 42 53 [x0, x1, x2, x3, x4] ([.int a0, .ref a]) g mi mr Q = (tw_kd g a = 2 ∧ tw_E sc d 53 0 [some (.ref a), some (.int a0)] [] g mi mr (tw_K sc (d + 1) 42 56 [x0, x1, x2, x3, x4] [] Q)) := tw_x_cv (as := [.int a0]) (r := []) td_42_53 to_42 tc_1_43 to_53 rfl rfl rfl rfl
theorem td_42_56 : decode (tw_cd 42) 56 = .ok (.goto 72, 3) := by decide +kernel
theorem tz_42_56 : tw_E sc d 42 56 [x0, x1, x2, x3, x4] st g mi mr Q = tw_E sc d 42 128 [x0, x1, x2, x3, x4] st g mi mr Q := tw_x_goto td_42_56 (by decide)
theorem td_42_59 : decode (tw_cd 42) 59 = .ok (.aload_n 1, 1) := by decide +kernel
theorem tz_42_59 : tw_E sc d 42 59 [x0, some (.ref a), x2, x3, x4] st g mi mr Q = tw_E sc d 42 60 [x0, some (.ref a), x2, x3, x4] (.ref a :: st) g mi mr Q := tw_x_aload_n td_42_59 rfl
theorem tz_42_59n : tw_E sc d 42 59 [x0, some .null, x2, x3, x4] st g mi mr Q = tw_E sc d 42 60 [x0, some .null, x2, x3, x4] (.null :: st) g mi mr Q := tw_x_aload_nN td_42_59 rfl
theorem td_42_60 : decode (tw_cd 42) 60 = .ok (.aload_n 0, 1) := by decide +kernel
theorem tz_42_60 : tw_E sc d 42 60 [some (.ref a), x1, x2, x3, x4] st g mi mr Q = tw_E sc d 42 61 [some (.ref a), x1, x2, x3, x4] (.ref a :: st) g mi mr Q := tw_x_aload_n td_42_60 rfl
theorem td_42_61 : decode (tw_cd 42) 61 = .ok (.aload_n 1, 1) := by decide +kernel
theorem tz_42_61 : tw_E sc d 42 61 [x0, some (.ref a), x2, x3, x4] st g mi mr Q = tw_E sc d 42 62 [x0, some (.ref a), x2, x3, x4] (.ref a :: st) g mi mr Q := tw_x_aload_n td_42_61 rfl
theorem tz_42_61n : tw_E sc d 42 61 [x0, some .null, x2, x3, x4] st g mi mr Q = tw_E sc d 42 62 [x0, some .null, x2, x3, x4] (.null :: st) g mi mr Q := tw_x_aload_nN td_42_61 rfl
theorem td_42_62 : decode (tw_cd 42) 62 = .ok (.getfield 40, 3) := by decide +kernel
theorem tz_42_62 : tw_E sc d 42 62 [x0, x1, x2, x3, x4] (.ref a :: st) g mi mr Q = (tw_kd g a = 2 ∧ tw_E sc d 42 65 [x0, x1, x2, x3, x4] (.int (mi a 1) :: st) g mi mr Q) := tw_x_geti td_42_62 to_42 tf_1_40 (trf_2_1)
theorem td_42_65 : decode (tw_cd 42) 65 = .ok (.invokevirtual 33, 3) := by decide +kernel
theorem tz_42_65 {a0 : Int32} : tw_E sc (d + 1) 42 65 [x0, x1, x2, x3, x4] ([.int a0, .ref a, s1]) g mi mr Q = (tw_kd g a = 1 ∧ tw_E sc d 43 0 [some (.ref a), some (.int a0), none] [] g mi mr (tw_K sc (d + 1) 42 68 [x0, x1, x2, x3, x4] [s1] Q)) := tw_x_cv (as := [.int a0]) (r := [s1]) td_42_65 to_42 tc_1_33 to_43 rfl rfl rfl rfl
theorem td_42_68 : decode (tw_cd 42) 68 = .ok (.aload_n 0, 1) := by decide +kernel
theorem tz_42_68 : tw_E sc d 42 68 [some (.ref a), x1, x2, x3, x4] st g mi mr Q = tw_E sc d 42 69 [some (.ref a), x1, x2, x3, x4] (.ref a :: st) g mi mr Q := tw_x_aload_n td_42_68 rfl
theorem td_42_69 : decode (tw_cd 42) 69 = .ok (.aload_n 1, 1) := by decide +kernel
theorem tz_42_69 : tw_E sc d 42 69 [x0, some (.ref a), x2, x3, x4] st g mi mr Q = tw_E sc d 42 70 [x0, some (.ref a), x2, x3, x4] (.ref a :: st) g mi mr Q := tw_x_aload_n td_42_69 rfl
theorem tz_42_69n : tw_E sc d 42 69 [x0, some .null, x2, x3, x4] st g mi mr Q = tw_E sc d 42 70 [x0, some .null, x2, x3, x4] (.null :: st) g mi mr Q := tw_x_aload_nN td_42_69 rfl
theorem td_42_70 : decode (tw_cd 42) 70 = .ok (.getfield 47, 3) := by decide +kernel
theorem tz_42_70 : tw_E sc d 42 70 [x0, x1, x2, x3, x4] (.ref a :: st) g mi mr Q = (tw_kd g a = 2 ∧ tw_E sc d 42 73 [x0, x1, x2, x3, x4] (.int (mi a 2) :: st) g mi mr Q) := tw_x_geti td_42_70 to_42 tf_1_47 (trf_2_2)
theorem td_42_73 : decode (tw_cd 42) 73 = .ok (.invokevirtual 33, 3) := by decide +kernel
theorem tz_42_73 {a0 : Int32} : tw_E sc (d + 1) 42 73 [x0, x1, x2, x3, x4] ([.int a0, .ref a, s1, s2]) g mi mr Q = (tw_kd g a = 1 ∧ tw_E sc d 43 0 [some (.ref a), some (.int a0), none] [] g mi mr (tw_K sc (d + 1) 42 76 [x0, x1, x2, x3, x4] [s1, s2] Q)) := tw_x_cv (as := [.int a0]) (r := [s1, s2]) td_42_73 to_42 tc_1_33 to_43 rfl rfl rfl rfl
theorem td_42_76 : decode (tw_cd 42) 76 = .ok (.invokevirtual 50, 3) := by decide +kernel
theorem tz_42_76 {a0 : Int32} {a1 : Int32} : tw_E sc (d + 1) 42 76 [x0, x1, x2, x3, x4] ([.int a1, .int a0, .ref a]) g mi mr Q = (tw_kd g a = 2 ∧ tw_E sc d 52 0 [some (.ref a), some (.int a0), some (.int a1)] [] g mi mr (tw_K sc (d + 1) 42 79 [x0, x1, x2, x3, x4] [] Q)) := tw_x_cv (as := [.int a0, .int a1]) (r := []) td_42_76 to_42 tc_1_50 to_52 rfl rfl rfl rfl
theorem td_42_79 : decode (tw_cd 42) 79 = .ok (.goto 49, 3) := by decide +kernel
theorem tz_42_79 : tw_E sc d 42 79 [x0, x1, x2, x3, x4] st g mi mr Q = tw_E sc d 42 128 [x0, x1, x2, x3, x4] st g mi mr Q := tw_x_goto td_42_79 (by decide)
theorem td_42_82 : decode (tw_cd 42) 82 = .ok (.aload_n 1, 1) := by decide +kernel
theorem tz_42_82 : tw_E sc d 42 82 [x0, some (.ref a), x2, x3, x4] st g mi mr Q = tw_E sc d 42 83 [x0, some (.ref a), x2, x3, x4] (.ref a :: st) g mi mr Q := tw_x_aload_n td_42_82 rfl
theorem tz_42_82n : tw_E sc d 42 82 [x0, some .null, x2, x3, x4] st g mi mr Q = tw_E sc d 42 83 [x0, some .null, x2, x3, x4] (.null :: st) g mi mr Q := tw_x_aload_nN td_42_82 rfl
theorem td_42_83 : decode (tw_cd 42) 83 = .ok (.aload_n 0, 1) := by decide +kernel
theorem tz_42_83 : tw_E sc d 42 83 [some (.ref a), x1, x2, x3, x4] st g mi mr Q = tw_E sc d 42 84 [some (.ref a), x1, x2, x3, x4] (.ref a :: st) g mi mr Q := tw_x_aload_n td_42_83 rfl
theorem td_42_84 : decode (tw_cd 42) 84 = .ok (.aload_n 1, 1) := by decide +kernel
theorem tz_42_84 : tw_E sc d 42 84 [x0, some (.ref a), x2, x3, x4] st g mi mr Q = tw_E sc d 42 85 [x0, some (.ref a), x2, x3, x4] (.ref a :: st) g mi mr Q := tw_x_aload_n td_42_84 rfl
theorem tz_42_84n : tw_E sc d 42 84 [x0, some .null, x2, x3, x4] st g mi mr Q = tw_E sc d 42 85 [x0, some .null, x2, x3, x4] (.null :: st) g mi mr Q := tw_x_aload_nN td_42_84 rfl
theorem td_42_85 : decode (tw_cd 42) 85 = .ok (.getfield 40, 3) := by decide +kernel
theorem tz_42_85 : tw_E sc d 42 85 [x0, x1, x2, x3, x4] (.ref a :: st) g mi mr Q = (tw_kd g a = 2 ∧ tw_E sc d 42 88 [x0, x1, x2, x3, x4] (.int (mi a 1) :: st) g mi mr Q) := tw_x_geti td_42_85 to_42 tf_1_40 (trf_2_1)
theorem td_42_88 : decode (tw_cd 42) 88 = .ok (.invokevirtual 33, 3) := by decide +kernel
theorem tz_42_88 {a0 : Int32} : tw_E sc (d + 1) 42 88 [x0, x1, x2, x3, x4] ([.int a0, .ref a, s1]) g mi mr Q = (tw_kd g a = 1 ∧ tw_E sc d 43 0 [some (.ref a), some (.int a0), none] [] g mi mr (tw_K sc (d + 1) 42 91 [x0, x1, x2, x3, x4] [s1] Q)) := tw_x_cv (as := [.int a0]) (r := [s1]) td_42_88 to_42 tc_1_33 to_43 rfl rfl rfl rfl
theorem td_42_91 : decode (tw_cd 42) 91 = .ok (.invokevirtual 54, 3) := by decide +kernel
theorem tz_42_91 {a0 : Int32} : tw_E sc (d + 1) 42 91 [x0, x1, x2, x3, x4] ([.int a0, .ref a]) g mi mr Q = (tw_kd g a = 2 ∧ tw_E sc d 54 0 [some (.ref a), some (.int a0)] [] g mi mr (tw_K sc (d + 1) 42 94 [x0, x1, x2, x3, x4] [] Q)) := tw_x_cv (as := [.int a0]) (r := []) td_42_91 to_42 tc_1_54 to_54 rfl rfl rfl rfl
theorem td_42_94 : decode (tw_cd 42) 94 = .ok (.goto 34, 3) := by decide +kernel
theorem tz_42_94 : tw_E sc d 42 94 [x0, x1, x2, x3, x4] st g mi mr Q = tw_E sc d 42 128 [x0, x1, x2, x3, x4] st g mi mr Q := tw_x_goto td_42_94 (by decide)
theorem td_42_97 : decode (tw_cd 42) 97 = .ok (.aload_n 1, 1) := by decide +kernel
theorem tz_42_97 : tw_E sc d 42 97 [x0, some (.ref a), x2, x3, x4] st g mi mr Q = tw_E sc d 42 98 [x0, some (.ref a), x2, x3, x4] (.ref a :: st) g mi mr Q := tw_x_aload_n td_42_97 rfl
theorem tz_42_97n : tw_E sc d 42 97 [x0, some .null, x2, x3, x4] st g mi mr Q = tw_E sc d 42 98 [x0, some .null, x2, x3, x4] (.null :: st) g mi mr Q := tw_x_aload_nN td_42_97 rfl
theorem td_42_98 : decode (tw_cd 42) 98 = .ok (.iload_n 2, 1) := by decide +kernel
theorem tz_42_98 : tw_E sc d 42 98 [x0, x1, some (.int v), x3, x4] st g mi mr Q = tw_E sc d 42 99 [x0, x1, some (.int v), x3, x4] (.int v :: st) g mi mr Q := tw_x_iload_n td_42_98 rfl
theorem td_42_99 : decode (tw_cd 42) 99 = .ok (.aload_n 0, 1) := by decide +kernel
theorem tz_42_99 : tw_E sc d 42 99 [some (.ref a), x1, x2, x3, x4] st g mi mr Q = tw_E sc d 42 100 [some (.ref a), x1, x2, x3, x4] (.ref a :: st) g mi mr Q := tw_x_aload_n td_42_99 rfl
theorem td_42_100 : decode (tw_cd 42) 100 = .ok (.aload_n 1, 1) := by decide +kernel
theorem tz_42_100 : tw_E sc d 42 100 [x0, some (.ref a), x2, x3, x4] st g mi mr Q = tw_E sc d 42 101 [x0, some (.ref a), x2, x3, x4] (.ref a :: st) g mi mr Q := tw_x_aload_n td_42_100 rfl
theorem tz_42_100n : tw_E sc d 42 100 [x0, some .null, x2, x3, x4] st g mi mr Q = tw_E sc d 42 101 [x0, some .null, x2, x3, x4] (.null :: st) g mi mr Q := tw_x_aload_nN td_42_100 rfl
theorem td_42_101 : decode (tw_cd 42) 101 = .ok (.getfield 40, 3) := by decide +kernel
theorem tz_42_101 : tw_E sc d 42 101 [x0, x1, x2, x3, x4] (.ref a :: st) g mi mr Q = (tw_kd g a = 2 ∧ tw_E sc d 42 104 [x0, x1, x2, x3, x4] (.int (mi a 1) :: st) g mi mr Q) := tw_x_geti td_42_101 to_42 tf_1_40 (trf_2_1)
theorem td_42_104 : decode (tw_cd 42) 104 = .ok (.invokevirtual 33, 3) := by decide +kernel
theorem tz_42_104 {a0 : Int32} : tw_E sc (d + 1) 42 104 [x0, x1, x2, x3, x4] ([.int a0, .ref a, s1, s2]) g mi mr Q = (tw_kd g a = 1 ∧ tw_E sc d 43 0 [some (.ref a), some (.int a0), none] [] g mi mr (tw_K sc (d + 1) 42 107 [x0, x1, x2, x3, x4] [s1, s2] Q)) := tw_x_cv (as := [.int a0]) (r := [s1, s2]) td_42_104 to_42 tc_1_33 to_43 rfl rfl rfl rfl
theorem td_42_107 : decode (tw_cd 42) 107 = .ok (.aload_n 0, 1) := by decide +kernel
theorem tz_42_107 : tw_E sc d 42 107 [some (.ref a), x1, x2, x3, x4] st g mi mr Q = tw_E sc d 42 108 [some (.ref a), x1, x2, x3, x4] (.ref a :: st) g mi mr Q := tw_x_aload_n td_42_107 rfl
theorem td_42_108 : decode (tw_cd 42) 108 = .ok (.aload_n 1, 1) := by decide +kernel
theorem tz_42_108 : tw_E sc d 42 108 [x0, some (.ref a), x2, x3, x4] st g mi mr Q = tw_E sc d 42 109 [x0, some (.ref a), x2, x3, x4] (.ref a :: st) g mi mr Q := tw_x_aload_n td_42_108 rfl
theorem tz_42_108n : tw_E sc d 42 108 [x0, some .null, x2, x3, x4] st g mi mr Q = tw_E sc d 42 109 [x0, some .null, x2, x3, x4] (.null :: st) g mi mr Q := tw_x_aload_nN td_42_108 rfl
theorem td_42_109 : decode (tw_cd 42) 109 = .ok (.getfield 47, 3) := by decide +kernel
theorem tz_42_109 : tw_E sc d 42 109 [x0, x1, x2, x3, x4] (.ref a :: st) g mi mr Q = (tw_kd g a = 2 ∧ tw_E sc d 42 112 [x0, x1, x2, x3, x4] (.int (mi a 2) :: st) g mi mr Q) := tw_x_geti td_42_109 to_42 tf_1_47 (trf_2_2)
theorem td_42_112 : decode (tw_cd 42) 112 = .ok (.invokevirtual 33, 3) := by decide +kernel
theorem tz_42_112 {a0 : Int32} : tw_E sc (d + 1) 42 112 [x0, x1, x2, x3, x4] ([.int a0, .ref a, s1, s2, s3]) g mi mr Q = (tw_kd g a = 1 ∧ tw_E sc d 43 0 [some (.ref a), some (.int a0), none] [] g mi mr (tw_K sc (d + 1) 42 115 [x0, x1, x2, x3, x4] [s1, s2, s3] Q)) := tw_x_cv (as := [.int a0]) (r := [s1, s2, s3]) td_42_112 to_42 tc_1_33 to_43 rfl rfl rfl rfl
theorem td_42_115 : decode (tw_cd 42) 115 = .ok (.invokevirtual 57, 3) := by decide +kernel
theorem tz_42_115 {a0 : Int32} {a1 : Int32} {a2 : Int32} : tw_E sc (d + 1) 42 115 [x0, x1, x2, x3, x4] ([.int a2, .int a1, .int a0, .ref a]) g mi mr Q = (tw_kd g a = 2 ∧ tw_E sc d 55 0 [some (.ref a), some (.int a0), some (.int a1), some (.int a2)] [] g mi mr (tw_K sc (d + 1) 42 118 [x0, x1, x2, x3, x4] [] Q)) := tw_x_cv (as := [.int a0, .int a1, .int a2]) (r := []) td_42_115 to_42 tc_1_57 to_55 rfl rfl rfl rfl
theorem td_42_118 : decode (tw_cd 42) 118 = .ok (.goto 10, 3) := by decide +kernel
theorem tz_42_118 : tw_E sc d 42 118 [x0, x1, x2, x3, x4] st g mi mr Q = tw_E sc d 42 128 [x0, x1, x2, x3, x4] st g mi mr Q := tw_x_goto td_42_118 (by decide)
theorem td_42_121 : decode (tw_cd 42) 121 = .ok (.aload_n 1, 1) := by decide +kernel
theorem tz_42_121 : tw_E sc d 42 121 [x0, some (.ref a), x2, x3, x4] st g mi mr Q = tw_E sc d 42 122 [x0, some (.ref a), x2, x3, x4] (.ref a :: st) g mi mr Q := tw_x_aload_n td_42_121 rfl
theorem tz_42_121n : tw_E sc d 42 121 [x0, some .null, x2, x3, x4] st g mi mr Q = tw_E sc d 42 122 [x0, some .null, x2, x3, x4] (.null :: st) g mi mr Q := tw_x_aload_nN td_42_121 rfl
theorem td_42_122 : decode (tw_cd 42) 122 = .ok (.iload_n 3, 1) := by decide +kernel
theorem tz_42_122 : tw_E sc d 42 122 [x0, x1, x2, some (.int v), x4] st g mi mr Q = tw_E sc d 42 123 [x0, x1, x2, some (.int v), x4] (.int v :: st) g mi mr Q := tw_x_iload_n td_42_122 rfl
theorem td_42_123 : decode (tw_cd 42) 123 = .ok (.iload 4, 2) := by decide +kernel
theorem tz_42_123 : tw_E sc d 42 123 [x0, x1, x2, x3, some (.int v)] st g mi mr Q = tw_E sc d 42 125 [x0, x1, x2, x3, some (.int v)] (.int v :: st) g mi mr Q := tw_x_iload td_42_123 rfl
theorem td_42_125 : decode (tw_cd 42) 125 = .ok (.invokevirtual 61, 3) := by decide +kernel
theorem tz_42_125 {a0 : Int32} {a1 : Int32} : tw_E sc (d + 1) 42 125 [x0, x1, x2, x3, x4] ([.int a1, .int a0, .ref a]) g mi mr Q = (tw_kd g a = 2 ∧ tw_E sc d 51 0 [some (.ref a), some (.int a0), some (.int a1), none] [] g mi mr (tw_K sc (d + 1) 42 128 [x0, x1, x2, x3, x4] [] Q)) := tw_x_cv (as := [.int a0, .int a1]) (r := []) td_42_125 to_42 tc_1_61 to_51 rfl rfl rfl rfl
theorem td_42_128 : decode (tw_cd 42) 128 = .ok (.return_, 1) := by decide +kernel
theorem tz_42_128 : tw_E sc d 42 128 [x0, x1, x2, x3, x4] [] g mi mr Q = Q none g mi mr := tw_x_vret td_42_128 tr_42
end tz_42
-- 43: Tr_isOn
section tz_43
variable {sc : Nat × (Nat → Int32)} {d : Nat} {x0 x1 x2 : Option Value} {st : List Value} {g : tw_G} {mi : tw_I} {mr : tw_Q} {Q : Option Value → tw_G → tw_I → tw_Q → Prop} {v w u : Int32} {a b : Nat} {j h : Int64} {s1 s2 s3 s4 : Value}
theorem td_43_0 : decode (tw_cd 43) 0 = .ok (.aload_n 0, 1) := by decide +kernel
theorem tz_43_0 : tw_E sc d 43 0 [some (.ref a), x1, x2] st g mi mr Q = tw_E sc d 43 1 [some (.ref a), x1, x2] (.ref a :: st) g mi mr Q := tw_x_aload_n td_43_0 rfl
theorem td_43_1 : decode (tw_cd 43) 1 = .ok (.iload_n 1, 1) := by decide +kernel
theorem tz_43_1 : tw_E sc d 43 1 [x0, some (.int v), x2] st g mi mr Q = tw_E sc d 43 2 [x0, some (.int v), x2] (.int v :: st) g mi mr Q := tw_x_iload_n td_43_1 rfl
theorem td_43_2 : decode (tw_cd 43) 2 = .ok (.invokevirtual 65, 3) := by decide +kernel
theorem tz_43_2 {a0 : Int32} : tw_E sc (d + 1) 43 2 [x0, x1, x2] ([.int a0, .ref a]) g mi mr Q = (tw_kd g a = 1 ∧ tw_E sc d 39 0 [some (.ref a), some (.int a0)] [] g mi mr (tw_K sc (d + 1) 43 5 [x0, x1, x2] [] Q)) := tw_x_cv (as := [.int a0]) (r := []) td_43_2 to_43 tc_1_65 to_39 rfl rfl rfl rfl
theorem td_43_5 : decode (tw_cd 43) 5 = .ok (.astore_n 2, 1) := by decide +kernel
theorem tz_43_5 : tw_E sc d 43 5 [x0, x1, x2] (.ref a :: st) g mi mr Q = tw_E sc d 43 6 [x0, x1, some (.ref a)] st g mi mr Q := tw_x_astore_n td_43_5 tp_43 rfl
theorem tz_43_5n : tw_E sc d 43 5 [x0, x1, x2] (.null :: st) g mi mr Q = tw_E sc d 43 6 [x0, x1, some .null] st g mi mr Q := tw_x_astore_nN td_43_5 tp_43 rfl
theorem td_43_6 : decode (tw_cd 43) 6 = .ok (.aload_n 2, 1) := by decide +kernel
theorem tz_43_6 : tw_E sc d 43 6 [x0, x1, some (.ref a)] st g mi mr Q = tw_E sc d 43 7 [x0, x1, some (.ref a)] (.ref a :: st) g mi mr Q := tw_x_aload_n td_43_6 rfl
theorem tz_43_6n : tw_E sc d 43 6 [x0, x1, some .null] st g mi mr Q = tw_E sc d 43 7 [x0, x1, some .null] (.null :: st) g mi mr Q := tw_x_aload_nN td_43_6 rfl
theorem td_43_7 : decode (tw_cd 43) 7 = .ok (.ifnull 14, 3) := by decide +kernel
theorem tz_43_7 : tw_E sc d 43 7 [x0, x1, x2] (.ref a :: st) g mi mr Q = tw_E sc d 43 10 [x0, x1, x2] st g mi mr Q := tw_x_ifnull td_43_7
theorem tz_43_7n : tw_E sc d 43 7 [x0, x1, x2] (.null :: st) g mi mr Q = tw_E sc d 43 21 [x0, x1, x2] st g mi mr Q := tw_x_ifnullN td_43_7 (by decide)
theorem td_43_10 : decode (tw_cd 43) 10 = .ok (.aload_n 2, 1) := by decide +kernel
theorem tz_43_10 : tw_E sc d 43 10 [x0, x1, some (.ref a)] st g mi mr Q = tw_E sc d 43 11 [x0, x1, some (.ref a)] (.ref a :: st) g mi mr Q := tw_x_aload_n td_43_10 rfl
theorem tz_43_10n : tw_E sc d 43 10 [x0, x1, some .null] st g mi mr Q = tw_E sc d 43 11 [x0, x1, some .null] (.null :: st) g mi mr Q := tw_x_aload_nN td_43_10 rfl
theorem td_43_11 : decode (tw_cd 43) 11 = .ok (.invokevirtual 69, 3) := by decide +kernel
theorem tz_43_11 : tw_E sc (d + 1) 43 11 [x0, x1, x2] ([.ref a]) g mi mr Q = (tw_kd g a = 2 ∧ tw_E sc d 47 0 [some (.ref a)] [] g mi mr (tw_K sc (d + 1) 43 14 [x0, x1, x2] [] Q)) := tw_x_cv (as := []) (r := []) td_43_11 to_43 tc_1_69 to_47 rfl rfl rfl rfl
theorem td_43_14 : decode (tw_cd 43) 14 = .ok (.ifCond .eq 7, 3) := by decide +kernel
theorem tz_43_14 : tw_E sc d 43 14 [x0, x1, x2] (.int v :: st) g mi mr Q = if v = 0 then tw_E sc d 43 21 [x0, x1, x2] st g mi mr Q else tw_E sc d 43 17 [x0, x1, x2] st g mi mr Q := tw_x_if_eq td_43_14 (by decide)
theorem td_43_17 : decode (tw_cd 43) 17 = .ok (.iconst 1, 1) := by decide +kernel
theorem tz_43_17 : tw_E sc d 43 17 [x0, x1, x2] st g mi mr Q = tw_E sc d 43 18 [x0, x1, x2] (.int 1 :: st) g mi mr Q := tw_x_iconst td_43_17 (by decide)
theorem td_43_18 : decode (tw_cd 43) 18 = .ok (.goto 4, 3) := by decide +kernel
theorem tz_43_18 : tw_E sc d 43 18 [x0, x1, x2] st g mi mr Q = tw_E sc d 43 22 [x0, x1, x2] st g mi mr Q := tw_x_goto td_43_18 (by decide)
theorem td_43_21 : decode (tw_cd 43) 21 = .ok (.iconst 0, 1) := by decide +kernel
theorem tz_43_21 : tw_E sc d 43 21 [x0, x1, x2] st g mi mr Q = tw_E sc d 43 22 [x0, x1, x2] (.int 0 :: st) g mi mr Q := tw_x_iconst td_43_21 (by decide)
theorem td_43_22 : decode (tw_cd 43) 22 = .ok (.ireturn, 1) := by decide +kernel
theorem tz_43_22 : tw_E sc d 43 22 [x0, x1, x2] ([.int v]) g mi mr Q = ((v = 0 ∨ v = 1) ∧ Q (some (.int v)) g mi mr) := tw_x_zret td_43_22 tr_43
end tz_43
-- 44: No_init
section tz_44
variable {sc : Nat × (Nat → Int32)} {d : Nat} {x0 : Option Value} {st : List Value} {g : tw_G} {mi : tw_I} {mr : tw_Q} {Q : Option Value → tw_G → tw_I → tw_Q → Prop} {v w u : Int32} {a b : Nat} {j h : Int64} {s1 s2 s3 s4 : Value}
theorem td_44_0 : decode (tw_cd 44) 0 = .ok (.aload_n 0, 1) := by decide +kernel
theorem tz_44_0 : tw_E sc d 44 0 [some (.ref a)] st g mi mr Q = tw_E sc d 44 1 [some (.ref a)] (.ref a :: st) g mi mr Q := tw_x_aload_n td_44_0 rfl
theorem td_44_1 : decode (tw_cd 44) 1 = .ok (.invokespecial 3, 3) := by decide +kernel
theorem tz_44_1 : tw_E sc (d + 1) 44 1 [x0] (.ref a :: []) g mi mr Q = tw_E sc (d + 1) 44 4 [x0] [] g mi mr Q := tw_x_obj td_44_1 to_44 toi_2 (by simp)
theorem td_44_4 : decode (tw_cd 44) 4 = .ok (.return_, 1) := by decide +kernel
theorem tz_44_4 : tw_E sc d 44 4 [x0] [] g mi mr Q = Q none g mi mr := tw_x_vret td_44_4 tr_44
end tz_44
-- 45: No_become
section tz_45
variable {sc : Nat × (Nat → Int32)} {d : Nat} {x0 x1 x2 x3 x4 x5 : Option Value} {st : List Value} {g : tw_G} {mi : tw_I} {mr : tw_Q} {Q : Option Value → tw_G → tw_I → tw_Q → Prop} {v w u : Int32} {a b : Nat} {j h : Int64} {s1 s2 s3 s4 : Value}
theorem td_45_0 : decode (tw_cd 45) 0 = .ok (.aload_n 0, 1) := by decide +kernel
theorem tz_45_0 : tw_E sc d 45 0 [some (.ref a), x1, x2, x3, x4, x5] st g mi mr Q = tw_E sc d 45 1 [some (.ref a), x1, x2, x3, x4, x5] (.ref a :: st) g mi mr Q := tw_x_aload_n td_45_0 rfl
theorem td_45_1 : decode (tw_cd 45) 1 = .ok (.iload_n 1, 1) := by decide +kernel
theorem tz_45_1 : tw_E sc d 45 1 [x0, some (.int v), x2, x3, x4, x5] st g mi mr Q = tw_E sc d 45 2 [x0, some (.int v), x2, x3, x4, x5] (.int v :: st) g mi mr Q := tw_x_iload_n td_45_1 rfl
theorem td_45_2 : decode (tw_cd 45) 2 = .ok (.putfield 9, 3) := by decide +kernel
theorem tz_45_2 : tw_E sc d 45 2 [x0, x1, x2, x3, x4, x5] (.int v :: .ref a :: st) g mi mr Q = (tw_kd g a = 2 ∧ tw_E sc d 45 5 [x0, x1, x2, x3, x4, x5] st g (tw_st mi a (tw_st (mi a) 0 v)) mr Q) := tw_x_puti td_45_2 to_45 tf_2_9 rfl rfl
theorem td_45_5 : decode (tw_cd 45) 5 = .ok (.aload_n 0, 1) := by decide +kernel
theorem tz_45_5 : tw_E sc d 45 5 [some (.ref a), x1, x2, x3, x4, x5] st g mi mr Q = tw_E sc d 45 6 [some (.ref a), x1, x2, x3, x4, x5] (.ref a :: st) g mi mr Q := tw_x_aload_n td_45_5 rfl
theorem td_45_6 : decode (tw_cd 45) 6 = .ok (.iload_n 2, 1) := by decide +kernel
theorem tz_45_6 : tw_E sc d 45 6 [x0, x1, some (.int v), x3, x4, x5] st g mi mr Q = tw_E sc d 45 7 [x0, x1, some (.int v), x3, x4, x5] (.int v :: st) g mi mr Q := tw_x_iload_n td_45_6 rfl
theorem td_45_7 : decode (tw_cd 45) 7 = .ok (.putfield 15, 3) := by decide +kernel
theorem tz_45_7 : tw_E sc d 45 7 [x0, x1, x2, x3, x4, x5] (.int v :: .ref a :: st) g mi mr Q = (tw_kd g a = 2 ∧ tw_E sc d 45 10 [x0, x1, x2, x3, x4, x5] st g (tw_st mi a (tw_st (mi a) 1 v)) mr Q) := tw_x_puti td_45_7 to_45 tf_2_15 rfl rfl
theorem td_45_10 : decode (tw_cd 45) 10 = .ok (.aload_n 0, 1) := by decide +kernel
theorem tz_45_10 : tw_E sc d 45 10 [some (.ref a), x1, x2, x3, x4, x5] st g mi mr Q = tw_E sc d 45 11 [some (.ref a), x1, x2, x3, x4, x5] (.ref a :: st) g mi mr Q := tw_x_aload_n td_45_10 rfl
theorem td_45_11 : decode (tw_cd 45) 11 = .ok (.iload_n 3, 1) := by decide +kernel
theorem tz_45_11 : tw_E sc d 45 11 [x0, x1, x2, some (.int v), x4, x5] st g mi mr Q = tw_E sc d 45 12 [x0, x1, x2, some (.int v), x4, x5] (.int v :: st) g mi mr Q := tw_x_iload_n td_45_11 rfl
theorem td_45_12 : decode (tw_cd 45) 12 = .ok (.putfield 18, 3) := by decide +kernel
theorem tz_45_12 : tw_E sc d 45 12 [x0, x1, x2, x3, x4, x5] (.int v :: .ref a :: st) g mi mr Q = (tw_kd g a = 2 ∧ tw_E sc d 45 15 [x0, x1, x2, x3, x4, x5] st g (tw_st mi a (tw_st (mi a) 2 v)) mr Q) := tw_x_puti td_45_12 to_45 tf_2_18 rfl rfl
theorem td_45_15 : decode (tw_cd 45) 15 = .ok (.aload_n 0, 1) := by decide +kernel
theorem tz_45_15 : tw_E sc d 45 15 [some (.ref a), x1, x2, x3, x4, x5] st g mi mr Q = tw_E sc d 45 16 [some (.ref a), x1, x2, x3, x4, x5] (.ref a :: st) g mi mr Q := tw_x_aload_n td_45_15 rfl
theorem td_45_16 : decode (tw_cd 45) 16 = .ok (.iload 4, 2) := by decide +kernel
theorem tz_45_16 : tw_E sc d 45 16 [x0, x1, x2, x3, some (.int v), x5] st g mi mr Q = tw_E sc d 45 18 [x0, x1, x2, x3, some (.int v), x5] (.int v :: st) g mi mr Q := tw_x_iload td_45_16 rfl
theorem td_45_18 : decode (tw_cd 45) 18 = .ok (.putfield 21, 3) := by decide +kernel
theorem tz_45_18 : tw_E sc d 45 18 [x0, x1, x2, x3, x4, x5] (.int v :: .ref a :: st) g mi mr Q = (tw_kd g a = 2 ∧ tw_E sc d 45 21 [x0, x1, x2, x3, x4, x5] st g (tw_st mi a (tw_st (mi a) 3 v)) mr Q) := tw_x_puti td_45_18 to_45 tf_2_21 rfl rfl
theorem td_45_21 : decode (tw_cd 45) 21 = .ok (.aload_n 0, 1) := by decide +kernel
theorem tz_45_21 : tw_E sc d 45 21 [some (.ref a), x1, x2, x3, x4, x5] st g mi mr Q = tw_E sc d 45 22 [some (.ref a), x1, x2, x3, x4, x5] (.ref a :: st) g mi mr Q := tw_x_aload_n td_45_21 rfl
theorem td_45_22 : decode (tw_cd 45) 22 = .ok (.iload 5, 2) := by decide +kernel
theorem tz_45_22 : tw_E sc d 45 22 [x0, x1, x2, x3, x4, some (.int v)] st g mi mr Q = tw_E sc d 45 24 [x0, x1, x2, x3, x4, some (.int v)] (.int v :: st) g mi mr Q := tw_x_iload td_45_22 rfl
theorem td_45_24 : decode (tw_cd 45) 24 = .ok (.putfield 24, 3) := by decide +kernel
theorem tz_45_24 : tw_E sc d 45 24 [x0, x1, x2, x3, x4, x5] (.int v :: .ref a :: st) g mi mr Q = (tw_kd g a = 2 ∧ tw_E sc d 45 27 [x0, x1, x2, x3, x4, x5] st g (tw_st mi a (tw_st (mi a) 4 v)) mr Q) := tw_x_puti td_45_24 to_45 tf_2_24 rfl rfl
theorem td_45_27 : decode (tw_cd 45) 27 = .ok (.return_, 1) := by decide +kernel
theorem tz_45_27 : tw_E sc d 45 27 [x0, x1, x2, x3, x4, x5] [] g mi mr Q = Q none g mi mr := tw_x_vret td_45_27 tr_45
end tz_45
-- 46: No_rest
section tz_46
variable {sc : Nat × (Nat → Int32)} {d : Nat} {x0 : Option Value} {st : List Value} {g : tw_G} {mi : tw_I} {mr : tw_Q} {Q : Option Value → tw_G → tw_I → tw_Q → Prop} {v w u : Int32} {a b : Nat} {j h : Int64} {s1 s2 s3 s4 : Value}
theorem td_46_0 : decode (tw_cd 46) 0 = .ok (.aload_n 0, 1) := by decide +kernel
theorem tz_46_0 : tw_E sc d 46 0 [some (.ref a)] st g mi mr Q = tw_E sc d 46 1 [some (.ref a)] (.ref a :: st) g mi mr Q := tw_x_aload_n td_46_0 rfl
theorem td_46_1 : decode (tw_cd 46) 1 = .ok (.iconst 0, 1) := by decide +kernel
theorem tz_46_1 : tw_E sc d 46 1 [x0] st g mi mr Q = tw_E sc d 46 2 [x0] (.int 0 :: st) g mi mr Q := tw_x_iconst td_46_1 (by decide)
theorem td_46_2 : decode (tw_cd 46) 2 = .ok (.putfield 27, 3) := by decide +kernel
theorem tz_46_2 : tw_E sc d 46 2 [x0] (.int v :: .ref a :: st) g mi mr Q = ((tw_kd g a = 2 ∧ (v = 0 ∨ v = 1)) ∧ tw_E sc d 46 5 [x0] st g (tw_st mi a (tw_st (mi a) 5 v)) mr Q) := tw_x_putz td_46_2 to_46 tf_2_27 rfl rfl
theorem td_46_5 : decode (tw_cd 46) 5 = .ok (.aload_n 0, 1) := by decide +kernel
theorem tz_46_5 : tw_E sc d 46 5 [some (.ref a)] st g mi mr Q = tw_E sc d 46 6 [some (.ref a)] (.ref a :: st) g mi mr Q := tw_x_aload_n td_46_5 rfl
theorem td_46_6 : decode (tw_cd 46) 6 = .ok (.iconst 0, 1) := by decide +kernel
theorem tz_46_6 : tw_E sc d 46 6 [x0] st g mi mr Q = tw_E sc d 46 7 [x0] (.int 0 :: st) g mi mr Q := tw_x_iconst td_46_6 (by decide)
theorem td_46_7 : decode (tw_cd 46) 7 = .ok (.putfield 31, 3) := by decide +kernel
theorem tz_46_7 : tw_E sc d 46 7 [x0] (.int v :: .ref a :: st) g mi mr Q = (tw_kd g a = 2 ∧ tw_E sc d 46 10 [x0] st g (tw_st mi a (tw_st (mi a) 6 v)) mr Q) := tw_x_puti td_46_7 to_46 tf_2_31 rfl rfl
theorem td_46_10 : decode (tw_cd 46) 10 = .ok (.aload_n 0, 1) := by decide +kernel
theorem tz_46_10 : tw_E sc d 46 10 [some (.ref a)] st g mi mr Q = tw_E sc d 46 11 [some (.ref a)] (.ref a :: st) g mi mr Q := tw_x_aload_n td_46_10 rfl
theorem td_46_11 : decode (tw_cd 46) 11 = .ok (.bipush (-9), 2) := by decide +kernel
theorem tz_46_11 : tw_E sc d 46 11 [x0] st g mi mr Q = tw_E sc d 46 13 [x0] (.int (-9) :: st) g mi mr Q := tw_x_bipush td_46_11 (by decide)
theorem td_46_13 : decode (tw_cd 46) 13 = .ok (.putfield 34, 3) := by decide +kernel
theorem tz_46_13 : tw_E sc d 46 13 [x0] (.int v :: .ref a :: st) g mi mr Q = (tw_kd g a = 2 ∧ tw_E sc d 46 16 [x0] st g (tw_st mi a (tw_st (mi a) 7 v)) mr Q) := tw_x_puti td_46_13 to_46 tf_2_34 rfl rfl
theorem td_46_16 : decode (tw_cd 46) 16 = .ok (.return_, 1) := by decide +kernel
theorem tz_46_16 : tw_E sc d 46 16 [x0] [] g mi mr Q = Q none g mi mr := tw_x_vret td_46_16 tr_46
end tz_46
-- 47: No_isOn
section tz_47
variable {sc : Nat × (Nat → Int32)} {d : Nat} {x0 : Option Value} {st : List Value} {g : tw_G} {mi : tw_I} {mr : tw_Q} {Q : Option Value → tw_G → tw_I → tw_Q → Prop} {v w u : Int32} {a b : Nat} {j h : Int64} {s1 s2 s3 s4 : Value}
theorem td_47_0 : decode (tw_cd 47) 0 = .ok (.aload_n 0, 1) := by decide +kernel
theorem tz_47_0 : tw_E sc d 47 0 [some (.ref a)] st g mi mr Q = tw_E sc d 47 1 [some (.ref a)] (.ref a :: st) g mi mr Q := tw_x_aload_n td_47_0 rfl
theorem td_47_1 : decode (tw_cd 47) 1 = .ok (.getfield 27, 3) := by decide +kernel
theorem tz_47_1 : tw_E sc d 47 1 [x0] (.ref a :: st) g mi mr Q = (tw_kd g a = 2 ∧ tw_E sc d 47 4 [x0] (.int (mi a 5) :: st) g mi mr Q) := tw_x_geti td_47_1 to_47 tf_2_27 (trf_2_5)
theorem td_47_4 : decode (tw_cd 47) 4 = .ok (.ireturn, 1) := by decide +kernel
theorem tz_47_4 : tw_E sc d 47 4 [x0] ([.int v]) g mi mr Q = ((v = 0 ∨ v = 1) ∧ Q (some (.int v)) g mi mr) := tw_x_zret td_47_4 tr_47
end tz_47
-- 48: No_isOf
section tz_48
variable {sc : Nat × (Nat → Int32)} {d : Nat} {x0 x1 : Option Value} {st : List Value} {g : tw_G} {mi : tw_I} {mr : tw_Q} {Q : Option Value → tw_G → tw_I → tw_Q → Prop} {v w u : Int32} {a b : Nat} {j h : Int64} {s1 s2 s3 s4 : Value}
theorem td_48_0 : decode (tw_cd 48) 0 = .ok (.iload_n 1, 1) := by decide +kernel
theorem tz_48_0 : tw_E sc d 48 0 [x0, some (.int v)] st g mi mr Q = tw_E sc d 48 1 [x0, some (.int v)] (.int v :: st) g mi mr Q := tw_x_iload_n td_48_0 rfl
theorem td_48_1 : decode (tw_cd 48) 1 = .ok (.lookupswitch 63 #[(0, 35), (6, 56), (8, 61)], 35) := by decide +kernel
theorem tz_48_1 : tw_E sc d 48 1 [x0, x1] (.int v :: st) g mi mr Q = if v = 0 then tw_E sc d 48 36 [x0, x1] st g mi mr Q else if v = 6 then tw_E sc d 48 57 [x0, x1] st g mi mr Q else if v = 8 then tw_E sc d 48 62 [x0, x1] st g mi mr Q else tw_E sc d 48 64 [x0, x1] st g mi mr Q := tw_x_l3 td_48_1 (by decide) (by decide) (by decide) (by decide) (by decide) (by decide) (by decide) rfl
theorem td_48_36 : decode (tw_cd 48) 36 = .ok (.aload_n 0, 1) := by decide +kernel
theorem tz_48_36 : tw_E sc d 48 36 [some (.ref a), x1] st g mi mr Q = tw_E sc d 48 37 [some (.ref a), x1] (.ref a :: st) g mi mr Q := tw_x_aload_n td_48_36 rfl
theorem td_48_37 : decode (tw_cd 48) 37 = .ok (.getfield 9, 3) := by decide +kernel
theorem tz_48_37 : tw_E sc d 48 37 [x0, x1] (.ref a :: st) g mi mr Q = (tw_kd g a = 2 ∧ tw_E sc d 48 40 [x0, x1] (.int (mi a 0) :: st) g mi mr Q) := tw_x_geti td_48_37 to_48 tf_2_9 (trf_2_0)
theorem td_48_40 : decode (tw_cd 48) 40 = .ok (.ifCond .eq 11, 3) := by decide +kernel
theorem tz_48_40 : tw_E sc d 48 40 [x0, x1] (.int v :: st) g mi mr Q = if v = 0 then tw_E sc d 48 51 [x0, x1] st g mi mr Q else tw_E sc d 48 43 [x0, x1] st g mi mr Q := tw_x_if_eq td_48_40 (by decide)
theorem td_48_43 : decode (tw_cd 48) 43 = .ok (.aload_n 0, 1) := by decide +kernel
theorem tz_48_43 : tw_E sc d 48 43 [some (.ref a), x1] st g mi mr Q = tw_E sc d 48 44 [some (.ref a), x1] (.ref a :: st) g mi mr Q := tw_x_aload_n td_48_43 rfl
theorem td_48_44 : decode (tw_cd 48) 44 = .ok (.getfield 9, 3) := by decide +kernel
theorem tz_48_44 : tw_E sc d 48 44 [x0, x1] (.ref a :: st) g mi mr Q = (tw_kd g a = 2 ∧ tw_E sc d 48 47 [x0, x1] (.int (mi a 0) :: st) g mi mr Q) := tw_x_geti td_48_44 to_48 tf_2_9 (trf_2_0)
theorem td_48_47 : decode (tw_cd 48) 47 = .ok (.iconst 1, 1) := by decide +kernel
theorem tz_48_47 : tw_E sc d 48 47 [x0, x1] st g mi mr Q = tw_E sc d 48 48 [x0, x1] (.int 1 :: st) g mi mr Q := tw_x_iconst td_48_47 (by decide)
theorem td_48_48 : decode (tw_cd 48) 48 = .ok (.if_icmp .ne 7, 3) := by decide +kernel
theorem tz_48_48 : tw_E sc d 48 48 [x0, x1] (.int w :: .int v :: st) g mi mr Q = if ¬ v = w then tw_E sc d 48 55 [x0, x1] st g mi mr Q else tw_E sc d 48 51 [x0, x1] st g mi mr Q := tw_x_ic_ne td_48_48 (by decide)
theorem td_48_51 : decode (tw_cd 48) 51 = .ok (.iconst 1, 1) := by decide +kernel
theorem tz_48_51 : tw_E sc d 48 51 [x0, x1] st g mi mr Q = tw_E sc d 48 52 [x0, x1] (.int 1 :: st) g mi mr Q := tw_x_iconst td_48_51 (by decide)
theorem td_48_52 : decode (tw_cd 48) 52 = .ok (.goto 4, 3) := by decide +kernel
theorem tz_48_52 : tw_E sc d 48 52 [x0, x1] st g mi mr Q = tw_E sc d 48 56 [x0, x1] st g mi mr Q := tw_x_goto td_48_52 (by decide)
theorem td_48_55 : decode (tw_cd 48) 55 = .ok (.iconst 0, 1) := by decide +kernel
theorem tz_48_55 : tw_E sc d 48 55 [x0, x1] st g mi mr Q = tw_E sc d 48 56 [x0, x1] (.int 0 :: st) g mi mr Q := tw_x_iconst td_48_55 (by decide)
theorem td_48_56 : decode (tw_cd 48) 56 = .ok (.ireturn, 1) := by decide +kernel
theorem tz_48_56 : tw_E sc d 48 56 [x0, x1] ([.int v]) g mi mr Q = ((v = 0 ∨ v = 1) ∧ Q (some (.int v)) g mi mr) := tw_x_zret td_48_56 tr_48
theorem td_48_57 : decode (tw_cd 48) 57 = .ok (.aload_n 0, 1) := by decide +kernel
theorem tz_48_57 : tw_E sc d 48 57 [some (.ref a), x1] st g mi mr Q = tw_E sc d 48 58 [some (.ref a), x1] (.ref a :: st) g mi mr Q := tw_x_aload_n td_48_57 rfl
theorem td_48_58 : decode (tw_cd 48) 58 = .ok (.invokevirtual 37, 3) := by decide +kernel
theorem tz_48_58 : tw_E sc (d + 1) 48 58 [x0, x1] ([.ref a]) g mi mr Q = (tw_kd g a = 2 ∧ tw_E sc d 56 0 [some (.ref a)] [] g mi mr (tw_K sc (d + 1) 48 61 [x0, x1] [] Q)) := tw_x_cv (as := []) (r := []) td_48_58 to_48 tc_2_37 to_56 rfl rfl rfl rfl
theorem td_48_61 : decode (tw_cd 48) 61 = .ok (.ireturn, 1) := by decide +kernel
theorem tz_48_61 : tw_E sc d 48 61 [x0, x1] ([.int v]) g mi mr Q = ((v = 0 ∨ v = 1) ∧ Q (some (.int v)) g mi mr) := tw_x_zret td_48_61 tr_48
theorem td_48_62 : decode (tw_cd 48) 62 = .ok (.iconst 1, 1) := by decide +kernel
theorem tz_48_62 : tw_E sc d 48 62 [x0, x1] st g mi mr Q = tw_E sc d 48 63 [x0, x1] (.int 1 :: st) g mi mr Q := tw_x_iconst td_48_62 (by decide)
theorem td_48_63 : decode (tw_cd 48) 63 = .ok (.ireturn, 1) := by decide +kernel
theorem tz_48_63 : tw_E sc d 48 63 [x0, x1] ([.int v]) g mi mr Q = ((v = 0 ∨ v = 1) ∧ Q (some (.int v)) g mi mr) := tw_x_zret td_48_63 tr_48
theorem td_48_64 : decode (tw_cd 48) 64 = .ok (.aload_n 0, 1) := by decide +kernel
theorem tz_48_64 : tw_E sc d 48 64 [some (.ref a), x1] st g mi mr Q = tw_E sc d 48 65 [some (.ref a), x1] (.ref a :: st) g mi mr Q := tw_x_aload_n td_48_64 rfl
theorem td_48_65 : decode (tw_cd 48) 65 = .ok (.getfield 9, 3) := by decide +kernel
theorem tz_48_65 : tw_E sc d 48 65 [x0, x1] (.ref a :: st) g mi mr Q = (tw_kd g a = 2 ∧ tw_E sc d 48 68 [x0, x1] (.int (mi a 0) :: st) g mi mr Q) := tw_x_geti td_48_65 to_48 tf_2_9 (trf_2_0)
theorem td_48_68 : decode (tw_cd 48) 68 = .ok (.iload_n 1, 1) := by decide +kernel
theorem tz_48_68 : tw_E sc d 48 68 [x0, some (.int v)] st g mi mr Q = tw_E sc d 48 69 [x0, some (.int v)] (.int v :: st) g mi mr Q := tw_x_iload_n td_48_68 rfl
theorem td_48_69 : decode (tw_cd 48) 69 = .ok (.if_icmp .ne 7, 3) := by decide +kernel
theorem tz_48_69 : tw_E sc d 48 69 [x0, x1] (.int w :: .int v :: st) g mi mr Q = if ¬ v = w then tw_E sc d 48 76 [x0, x1] st g mi mr Q else tw_E sc d 48 72 [x0, x1] st g mi mr Q := tw_x_ic_ne td_48_69 (by decide)
theorem td_48_72 : decode (tw_cd 48) 72 = .ok (.iconst 1, 1) := by decide +kernel
theorem tz_48_72 : tw_E sc d 48 72 [x0, x1] st g mi mr Q = tw_E sc d 48 73 [x0, x1] (.int 1 :: st) g mi mr Q := tw_x_iconst td_48_72 (by decide)
theorem td_48_73 : decode (tw_cd 48) 73 = .ok (.goto 4, 3) := by decide +kernel
theorem tz_48_73 : tw_E sc d 48 73 [x0, x1] st g mi mr Q = tw_E sc d 48 77 [x0, x1] st g mi mr Q := tw_x_goto td_48_73 (by decide)
theorem td_48_76 : decode (tw_cd 48) 76 = .ok (.iconst 0, 1) := by decide +kernel
theorem tz_48_76 : tw_E sc d 48 76 [x0, x1] st g mi mr Q = tw_E sc d 48 77 [x0, x1] (.int 0 :: st) g mi mr Q := tw_x_iconst td_48_76 (by decide)
theorem td_48_77 : decode (tw_cd 48) 77 = .ok (.ireturn, 1) := by decide +kernel
theorem tz_48_77 : tw_E sc d 48 77 [x0, x1] ([.int v]) g mi mr Q = ((v = 0 ∨ v = 1) ∧ Q (some (.int v)) g mi mr) := tw_x_zret td_48_77 tr_48
end tz_48
-- 49: No_detail
section tz_49
variable {sc : Nat × (Nat → Int32)} {d : Nat} {x0 x1 : Option Value} {st : List Value} {g : tw_G} {mi : tw_I} {mr : tw_Q} {Q : Option Value → tw_G → tw_I → tw_Q → Prop} {v w u : Int32} {a b : Nat} {j h : Int64} {s1 s2 s3 s4 : Value}
theorem td_49_0 : decode (tw_cd 49) 0 = .ok (.iload_n 1, 1) := by decide +kernel
theorem tz_49_0 : tw_E sc d 49 0 [x0, some (.int v)] st g mi mr Q = tw_E sc d 49 1 [x0, some (.int v)] (.int v :: st) g mi mr Q := tw_x_iload_n td_49_0 rfl
theorem td_49_1 : decode (tw_cd 49) 1 = .ok (.tableswitch 51 0 3 #[31, 36, 41, 46], 31) := by decide +kernel
theorem tz_49_1 : tw_E sc d 49 1 [x0, x1] (.int v :: st) g mi mr Q = tw_E sc d 49 (tw_sw v 0 [32, 37, 42, 47] 52) [x0, x1] st g mi mr Q := tw_x_ts td_49_1 (by decide) (by decide) (by decide)
theorem td_49_32 : decode (tw_cd 49) 32 = .ok (.aload_n 0, 1) := by decide +kernel
theorem tz_49_32 : tw_E sc d 49 32 [some (.ref a), x1] st g mi mr Q = tw_E sc d 49 33 [some (.ref a), x1] (.ref a :: st) g mi mr Q := tw_x_aload_n td_49_32 rfl
theorem td_49_33 : decode (tw_cd 49) 33 = .ok (.getfield 9, 3) := by decide +kernel
theorem tz_49_33 : tw_E sc d 49 33 [x0, x1] (.ref a :: st) g mi mr Q = (tw_kd g a = 2 ∧ tw_E sc d 49 36 [x0, x1] (.int (mi a 0) :: st) g mi mr Q) := tw_x_geti td_49_33 to_49 tf_2_9 (trf_2_0)
theorem td_49_36 : decode (tw_cd 49) 36 = .ok (.ireturn, 1) := by decide +kernel
theorem tz_49_36 : tw_E sc d 49 36 [x0, x1] ([.int v]) g mi mr Q = Q (some (.int v)) g mi mr := tw_x_iret td_49_36 tr_49
theorem td_49_37 : decode (tw_cd 49) 37 = .ok (.aload_n 0, 1) := by decide +kernel
theorem tz_49_37 : tw_E sc d 49 37 [some (.ref a), x1] st g mi mr Q = tw_E sc d 49 38 [some (.ref a), x1] (.ref a :: st) g mi mr Q := tw_x_aload_n td_49_37 rfl
theorem td_49_38 : decode (tw_cd 49) 38 = .ok (.getfield 15, 3) := by decide +kernel
theorem tz_49_38 : tw_E sc d 49 38 [x0, x1] (.ref a :: st) g mi mr Q = (tw_kd g a = 2 ∧ tw_E sc d 49 41 [x0, x1] (.int (mi a 1) :: st) g mi mr Q) := tw_x_geti td_49_38 to_49 tf_2_15 (trf_2_1)
theorem td_49_41 : decode (tw_cd 49) 41 = .ok (.ireturn, 1) := by decide +kernel
theorem tz_49_41 : tw_E sc d 49 41 [x0, x1] ([.int v]) g mi mr Q = Q (some (.int v)) g mi mr := tw_x_iret td_49_41 tr_49
theorem td_49_42 : decode (tw_cd 49) 42 = .ok (.aload_n 0, 1) := by decide +kernel
theorem tz_49_42 : tw_E sc d 49 42 [some (.ref a), x1] st g mi mr Q = tw_E sc d 49 43 [some (.ref a), x1] (.ref a :: st) g mi mr Q := tw_x_aload_n td_49_42 rfl
theorem td_49_43 : decode (tw_cd 49) 43 = .ok (.getfield 18, 3) := by decide +kernel
theorem tz_49_43 : tw_E sc d 49 43 [x0, x1] (.ref a :: st) g mi mr Q = (tw_kd g a = 2 ∧ tw_E sc d 49 46 [x0, x1] (.int (mi a 2) :: st) g mi mr Q) := tw_x_geti td_49_43 to_49 tf_2_18 (trf_2_2)
theorem td_49_46 : decode (tw_cd 49) 46 = .ok (.ireturn, 1) := by decide +kernel
theorem tz_49_46 : tw_E sc d 49 46 [x0, x1] ([.int v]) g mi mr Q = Q (some (.int v)) g mi mr := tw_x_iret td_49_46 tr_49
theorem td_49_47 : decode (tw_cd 49) 47 = .ok (.aload_n 0, 1) := by decide +kernel
theorem tz_49_47 : tw_E sc d 49 47 [some (.ref a), x1] st g mi mr Q = tw_E sc d 49 48 [some (.ref a), x1] (.ref a :: st) g mi mr Q := tw_x_aload_n td_49_47 rfl
theorem td_49_48 : decode (tw_cd 49) 48 = .ok (.getfield 21, 3) := by decide +kernel
theorem tz_49_48 : tw_E sc d 49 48 [x0, x1] (.ref a :: st) g mi mr Q = (tw_kd g a = 2 ∧ tw_E sc d 49 51 [x0, x1] (.int (mi a 3) :: st) g mi mr Q) := tw_x_geti td_49_48 to_49 tf_2_21 (trf_2_3)
theorem td_49_51 : decode (tw_cd 49) 51 = .ok (.ireturn, 1) := by decide +kernel
theorem tz_49_51 : tw_E sc d 49 51 [x0, x1] ([.int v]) g mi mr Q = Q (some (.int v)) g mi mr := tw_x_iret td_49_51 tr_49
theorem td_49_52 : decode (tw_cd 49) 52 = .ok (.aload_n 0, 1) := by decide +kernel
theorem tz_49_52 : tw_E sc d 49 52 [some (.ref a), x1] st g mi mr Q = tw_E sc d 49 53 [some (.ref a), x1] (.ref a :: st) g mi mr Q := tw_x_aload_n td_49_52 rfl
theorem td_49_53 : decode (tw_cd 49) 53 = .ok (.getfield 24, 3) := by decide +kernel
theorem tz_49_53 : tw_E sc d 49 53 [x0, x1] (.ref a :: st) g mi mr Q = (tw_kd g a = 2 ∧ tw_E sc d 49 56 [x0, x1] (.int (mi a 4) :: st) g mi mr Q) := tw_x_geti td_49_53 to_49 tf_2_24 (trf_2_4)
theorem td_49_56 : decode (tw_cd 49) 56 = .ok (.ireturn, 1) := by decide +kernel
theorem tz_49_56 : tw_E sc d 49 56 [x0, x1] ([.int v]) g mi mr Q = Q (some (.int v)) g mi mr := tw_x_iret td_49_56 tr_49
end tz_49
-- 50: No_progress
section tz_50
variable {sc : Nat × (Nat → Int32)} {d : Nat} {x0 : Option Value} {st : List Value} {g : tw_G} {mi : tw_I} {mr : tw_Q} {Q : Option Value → tw_G → tw_I → tw_Q → Prop} {v w u : Int32} {a b : Nat} {j h : Int64} {s1 s2 s3 s4 : Value}
theorem td_50_0 : decode (tw_cd 50) 0 = .ok (.aload_n 0, 1) := by decide +kernel
theorem tz_50_0 : tw_E sc d 50 0 [some (.ref a)] st g mi mr Q = tw_E sc d 50 1 [some (.ref a)] (.ref a :: st) g mi mr Q := tw_x_aload_n td_50_0 rfl
theorem td_50_1 : decode (tw_cd 50) 1 = .ok (.getfield 9, 3) := by decide +kernel
theorem tz_50_1 : tw_E sc d 50 1 [x0] (.ref a :: st) g mi mr Q = (tw_kd g a = 2 ∧ tw_E sc d 50 4 [x0] (.int (mi a 0) :: st) g mi mr Q) := tw_x_geti td_50_1 to_50 tf_2_9 (trf_2_0)
theorem td_50_4 : decode (tw_cd 50) 4 = .ok (.iconst 5, 1) := by decide +kernel
theorem tz_50_4 : tw_E sc d 50 4 [x0] st g mi mr Q = tw_E sc d 50 5 [x0] (.int 5 :: st) g mi mr Q := tw_x_iconst td_50_4 (by decide)
theorem td_50_5 : decode (tw_cd 50) 5 = .ok (.if_icmp .ne 8, 3) := by decide +kernel
theorem tz_50_5 : tw_E sc d 50 5 [x0] (.int w :: .int v :: st) g mi mr Q = if ¬ v = w then tw_E sc d 50 13 [x0] st g mi mr Q else tw_E sc d 50 8 [x0] st g mi mr Q := tw_x_ic_ne td_50_5 (by decide)
theorem td_50_8 : decode (tw_cd 50) 8 = .ok (.aload_n 0, 1) := by decide +kernel
theorem tz_50_8 : tw_E sc d 50 8 [some (.ref a)] st g mi mr Q = tw_E sc d 50 9 [some (.ref a)] (.ref a :: st) g mi mr Q := tw_x_aload_n td_50_8 rfl
theorem td_50_9 : decode (tw_cd 50) 9 = .ok (.getfield 31, 3) := by decide +kernel
theorem tz_50_9 : tw_E sc d 50 9 [x0] (.ref a :: st) g mi mr Q = (tw_kd g a = 2 ∧ tw_E sc d 50 12 [x0] (.int (mi a 6) :: st) g mi mr Q) := tw_x_geti td_50_9 to_50 tf_2_31 (trf_2_6)
theorem td_50_12 : decode (tw_cd 50) 12 = .ok (.ireturn, 1) := by decide +kernel
theorem tz_50_12 : tw_E sc d 50 12 [x0] ([.int v]) g mi mr Q = Q (some (.int v)) g mi mr := tw_x_iret td_50_12 tr_50
theorem td_50_13 : decode (tw_cd 50) 13 = .ok (.aload_n 0, 1) := by decide +kernel
theorem tz_50_13 : tw_E sc d 50 13 [some (.ref a)] st g mi mr Q = tw_E sc d 50 14 [some (.ref a)] (.ref a :: st) g mi mr Q := tw_x_aload_n td_50_13 rfl
theorem td_50_14 : decode (tw_cd 50) 14 = .ok (.invokevirtual 37, 3) := by decide +kernel
theorem tz_50_14 : tw_E sc (d + 1) 50 14 [x0] ([.ref a]) g mi mr Q = (tw_kd g a = 2 ∧ tw_E sc d 56 0 [some (.ref a)] [] g mi mr (tw_K sc (d + 1) 50 17 [x0] [] Q)) := tw_x_cv (as := []) (r := []) td_50_14 to_50 tc_2_37 to_56 rfl rfl rfl rfl
theorem td_50_17 : decode (tw_cd 50) 17 = .ok (.ifCond .eq 10, 3) := by decide +kernel
theorem tz_50_17 : tw_E sc d 50 17 [x0] (.int v :: st) g mi mr Q = if v = 0 then tw_E sc d 50 27 [x0] st g mi mr Q else tw_E sc d 50 20 [x0] st g mi mr Q := tw_x_if_eq td_50_17 (by decide)
theorem td_50_20 : decode (tw_cd 50) 20 = .ok (.aload_n 0, 1) := by decide +kernel
theorem tz_50_20 : tw_E sc d 50 20 [some (.ref a)] st g mi mr Q = tw_E sc d 50 21 [some (.ref a)] (.ref a :: st) g mi mr Q := tw_x_aload_n td_50_20 rfl
theorem td_50_21 : decode (tw_cd 50) 21 = .ok (.getfield 34, 3) := by decide +kernel
theorem tz_50_21 : tw_E sc d 50 21 [x0] (.ref a :: st) g mi mr Q = (tw_kd g a = 2 ∧ tw_E sc d 50 24 [x0] (.int (mi a 7) :: st) g mi mr Q) := tw_x_geti td_50_21 to_50 tf_2_34 (trf_2_7)
theorem td_50_24 : decode (tw_cd 50) 24 = .ok (.goto 5, 3) := by decide +kernel
theorem tz_50_24 : tw_E sc d 50 24 [x0] st g mi mr Q = tw_E sc d 50 29 [x0] st g mi mr Q := tw_x_goto td_50_24 (by decide)
theorem td_50_27 : decode (tw_cd 50) 27 = .ok (.bipush (-9), 2) := by decide +kernel
theorem tz_50_27 : tw_E sc d 50 27 [x0] st g mi mr Q = tw_E sc d 50 29 [x0] (.int (-9) :: st) g mi mr Q := tw_x_bipush td_50_27 (by decide)
theorem td_50_29 : decode (tw_cd 50) 29 = .ok (.ireturn, 1) := by decide +kernel
theorem tz_50_29 : tw_E sc d 50 29 [x0] ([.int v]) g mi mr Q = Q (some (.int v)) g mi mr := tw_x_iret td_50_29 tr_50
end tz_50
-- 51: No_stepWire
section tz_51
variable {sc : Nat × (Nat → Int32)} {d : Nat} {x0 x1 x2 x3 : Option Value} {st : List Value} {g : tw_G} {mi : tw_I} {mr : tw_Q} {Q : Option Value → tw_G → tw_I → tw_Q → Prop} {v w u : Int32} {a b : Nat} {j h : Int64} {s1 s2 s3 s4 : Value}
theorem td_51_0 : decode (tw_cd 51) 0 = .ok (.iload_n 2, 1) := by decide +kernel
theorem tz_51_0 : tw_E sc d 51 0 [x0, x1, some (.int v), x3] st g mi mr Q = tw_E sc d 51 1 [x0, x1, some (.int v), x3] (.int v :: st) g mi mr Q := tw_x_iload_n td_51_0 rfl
theorem td_51_1 : decode (tw_cd 51) 1 = .ok (.aload_n 0, 1) := by decide +kernel
theorem tz_51_1 : tw_E sc d 51 1 [some (.ref a), x1, x2, x3] st g mi mr Q = tw_E sc d 51 2 [some (.ref a), x1, x2, x3] (.ref a :: st) g mi mr Q := tw_x_aload_n td_51_1 rfl
theorem td_51_2 : decode (tw_cd 51) 2 = .ok (.getfield 15, 3) := by decide +kernel
theorem tz_51_2 : tw_E sc d 51 2 [x0, x1, x2, x3] (.ref a :: st) g mi mr Q = (tw_kd g a = 2 ∧ tw_E sc d 51 5 [x0, x1, x2, x3] (.int (mi a 1) :: st) g mi mr Q) := tw_x_geti td_51_2 to_51 tf_2_15 (trf_2_1)
theorem td_51_5 : decode (tw_cd 51) 5 = .ok (.invokestatic 41, 3) := by decide +kernel
theorem tz_51_5 {a0 : Int32} {a1 : Int32} : tw_E sc (d + 1) 51 5 [x0, x1, x2, x3] ([.int a1, .int a0]) g mi mr Q = tw_E sc d 31 0 [some (.int a0), some (.int a1)] [] g mi mr (tw_K sc (d + 1) 51 8 [x0, x1, x2, x3] [] Q) := tw_x_cs (as := [.int a0, .int a1]) (r := []) td_51_5 to_51 tmn_2_41 tc_2_41 rfl rfl rfl rfl rfl
theorem td_51_8 : decode (tw_cd 51) 8 = .ok (.iconst 1, 1) := by decide +kernel
theorem tz_51_8 : tw_E sc d 51 8 [x0, x1, x2, x3] st g mi mr Q = tw_E sc d 51 9 [x0, x1, x2, x3] (.int 1 :: st) g mi mr Q := tw_x_iconst td_51_8 (by decide)
theorem td_51_9 : decode (tw_cd 51) 9 = .ok (.if_icmp .ne 7, 3) := by decide +kernel
theorem tz_51_9 : tw_E sc d 51 9 [x0, x1, x2, x3] (.int w :: .int v :: st) g mi mr Q = if ¬ v = w then tw_E sc d 51 16 [x0, x1, x2, x3] st g mi mr Q else tw_E sc d 51 12 [x0, x1, x2, x3] st g mi mr Q := tw_x_ic_ne td_51_9 (by decide)
theorem td_51_12 : decode (tw_cd 51) 12 = .ok (.iconst 1, 1) := by decide +kernel
theorem tz_51_12 : tw_E sc d 51 12 [x0, x1, x2, x3] st g mi mr Q = tw_E sc d 51 13 [x0, x1, x2, x3] (.int 1 :: st) g mi mr Q := tw_x_iconst td_51_12 (by decide)
theorem td_51_13 : decode (tw_cd 51) 13 = .ok (.goto 4, 3) := by decide +kernel
theorem tz_51_13 : tw_E sc d 51 13 [x0, x1, x2, x3] st g mi mr Q = tw_E sc d 51 17 [x0, x1, x2, x3] st g mi mr Q := tw_x_goto td_51_13 (by decide)
theorem td_51_16 : decode (tw_cd 51) 16 = .ok (.iconst 0, 1) := by decide +kernel
theorem tz_51_16 : tw_E sc d 51 16 [x0, x1, x2, x3] st g mi mr Q = tw_E sc d 51 17 [x0, x1, x2, x3] (.int 0 :: st) g mi mr Q := tw_x_iconst td_51_16 (by decide)
theorem td_51_17 : decode (tw_cd 51) 17 = .ok (.istore_n 3, 1) := by decide +kernel
theorem tz_51_17 : tw_E sc d 51 17 [x0, x1, x2, x3] (.int v :: st) g mi mr Q = tw_E sc d 51 18 [x0, x1, x2, some (.int v)] st g mi mr Q := tw_x_istore_n td_51_17 tp_51 rfl
theorem td_51_18 : decode (tw_cd 51) 18 = .ok (.aload_n 0, 1) := by decide +kernel
theorem tz_51_18 : tw_E sc d 51 18 [some (.ref a), x1, x2, x3] st g mi mr Q = tw_E sc d 51 19 [some (.ref a), x1, x2, x3] (.ref a :: st) g mi mr Q := tw_x_aload_n td_51_18 rfl
theorem td_51_19 : decode (tw_cd 51) 19 = .ok (.getfield 9, 3) := by decide +kernel
theorem tz_51_19 : tw_E sc d 51 19 [x0, x1, x2, x3] (.ref a :: st) g mi mr Q = (tw_kd g a = 2 ∧ tw_E sc d 51 22 [x0, x1, x2, x3] (.int (mi a 0) :: st) g mi mr Q) := tw_x_geti td_51_19 to_51 tf_2_9 (trf_2_0)
theorem td_51_22 : decode (tw_cd 51) 22 = .ok (.ifCond .ne 11, 3) := by decide +kernel
theorem tz_51_22 : tw_E sc d 51 22 [x0, x1, x2, x3] (.int v :: st) g mi mr Q = if ¬ v = 0 then tw_E sc d 51 33 [x0, x1, x2, x3] st g mi mr Q else tw_E sc d 51 25 [x0, x1, x2, x3] st g mi mr Q := tw_x_if_ne td_51_22 (by decide)
theorem td_51_25 : decode (tw_cd 51) 25 = .ok (.aload_n 0, 1) := by decide +kernel
theorem tz_51_25 : tw_E sc d 51 25 [some (.ref a), x1, x2, x3] st g mi mr Q = tw_E sc d 51 26 [some (.ref a), x1, x2, x3] (.ref a :: st) g mi mr Q := tw_x_aload_n td_51_25 rfl
theorem td_51_26 : decode (tw_cd 51) 26 = .ok (.iload_n 3, 1) := by decide +kernel
theorem tz_51_26 : tw_E sc d 51 26 [x0, x1, x2, some (.int v)] st g mi mr Q = tw_E sc d 51 27 [x0, x1, x2, some (.int v)] (.int v :: st) g mi mr Q := tw_x_iload_n td_51_26 rfl
theorem td_51_27 : decode (tw_cd 51) 27 = .ok (.putfield 27, 3) := by decide +kernel
theorem tz_51_27 : tw_E sc d 51 27 [x0, x1, x2, x3] (.int v :: .ref a :: st) g mi mr Q = ((tw_kd g a = 2 ∧ (v = 0 ∨ v = 1)) ∧ tw_E sc d 51 30 [x0, x1, x2, x3] st g (tw_st mi a (tw_st (mi a) 5 v)) mr Q) := tw_x_putz td_51_27 to_51 tf_2_27 rfl rfl
theorem td_51_30 : decode (tw_cd 51) 30 = .ok (.goto 41, 3) := by decide +kernel
theorem tz_51_30 : tw_E sc d 51 30 [x0, x1, x2, x3] st g mi mr Q = tw_E sc d 51 71 [x0, x1, x2, x3] st g mi mr Q := tw_x_goto td_51_30 (by decide)
theorem td_51_33 : decode (tw_cd 51) 33 = .ok (.aload_n 0, 1) := by decide +kernel
theorem tz_51_33 : tw_E sc d 51 33 [some (.ref a), x1, x2, x3] st g mi mr Q = tw_E sc d 51 34 [some (.ref a), x1, x2, x3] (.ref a :: st) g mi mr Q := tw_x_aload_n td_51_33 rfl
theorem td_51_34 : decode (tw_cd 51) 34 = .ok (.iload_n 1, 1) := by decide +kernel
theorem tz_51_34 : tw_E sc d 51 34 [x0, some (.int v), x2, x3] st g mi mr Q = tw_E sc d 51 35 [x0, some (.int v), x2, x3] (.int v :: st) g mi mr Q := tw_x_iload_n td_51_34 rfl
theorem td_51_35 : decode (tw_cd 51) 35 = .ok (.ifCond .lt 32, 3) := by decide +kernel
theorem tz_51_35 : tw_E sc d 51 35 [x0, x1, x2, x3] (.int v :: st) g mi mr Q = if v < 0 then tw_E sc d 51 67 [x0, x1, x2, x3] st g mi mr Q else tw_E sc d 51 38 [x0, x1, x2, x3] st g mi mr Q := tw_x_if_lt td_51_35 (by decide)
theorem td_51_38 : decode (tw_cd 51) 38 = .ok (.aload_n 0, 1) := by decide +kernel
theorem tz_51_38 : tw_E sc d 51 38 [some (.ref a), x1, x2, x3] st g mi mr Q = tw_E sc d 51 39 [some (.ref a), x1, x2, x3] (.ref a :: st) g mi mr Q := tw_x_aload_n td_51_38 rfl
theorem td_51_39 : decode (tw_cd 51) 39 = .ok (.iload_n 1, 1) := by decide +kernel
theorem tz_51_39 : tw_E sc d 51 39 [x0, some (.int v), x2, x3] st g mi mr Q = tw_E sc d 51 40 [x0, some (.int v), x2, x3] (.int v :: st) g mi mr Q := tw_x_iload_n td_51_39 rfl
theorem td_51_40 : decode (tw_cd 51) 40 = .ok (.aload_n 0, 1) := by decide +kernel
theorem tz_51_40 : tw_E sc d 51 40 [some (.ref a), x1, x2, x3] st g mi mr Q = tw_E sc d 51 41 [some (.ref a), x1, x2, x3] (.ref a :: st) g mi mr Q := tw_x_aload_n td_51_40 rfl
theorem td_51_41 : decode (tw_cd 51) 41 = .ok (.getfield 15, 3) := by decide +kernel
theorem tz_51_41 : tw_E sc d 51 41 [x0, x1, x2, x3] (.ref a :: st) g mi mr Q = (tw_kd g a = 2 ∧ tw_E sc d 51 44 [x0, x1, x2, x3] (.int (mi a 1) :: st) g mi mr Q) := tw_x_geti td_51_41 to_51 tf_2_15 (trf_2_1)
theorem td_51_44 : decode (tw_cd 51) 44 = .ok (.invokestatic 41, 3) := by decide +kernel
theorem tz_51_44 {a0 : Int32} {a1 : Int32} : tw_E sc (d + 1) 51 44 [x0, x1, x2, x3] ([.int a1, .int a0, s1, s2]) g mi mr Q = tw_E sc d 31 0 [some (.int a0), some (.int a1)] [] g mi mr (tw_K sc (d + 1) 51 47 [x0, x1, x2, x3] [s1, s2] Q) := tw_x_cs (as := [.int a0, .int a1]) (r := [s1, s2]) td_51_44 to_51 tmn_2_41 tc_2_41 rfl rfl rfl rfl rfl
theorem td_51_47 : decode (tw_cd 51) 47 = .ok (.iconst 1, 1) := by decide +kernel
theorem tz_51_47 : tw_E sc d 51 47 [x0, x1, x2, x3] st g mi mr Q = tw_E sc d 51 48 [x0, x1, x2, x3] (.int 1 :: st) g mi mr Q := tw_x_iconst td_51_47 (by decide)
theorem td_51_48 : decode (tw_cd 51) 48 = .ok (.if_icmp .ne 7, 3) := by decide +kernel
theorem tz_51_48 : tw_E sc d 51 48 [x0, x1, x2, x3] (.int w :: .int v :: st) g mi mr Q = if ¬ v = w then tw_E sc d 51 55 [x0, x1, x2, x3] st g mi mr Q else tw_E sc d 51 51 [x0, x1, x2, x3] st g mi mr Q := tw_x_ic_ne td_51_48 (by decide)
theorem td_51_51 : decode (tw_cd 51) 51 = .ok (.iconst 1, 1) := by decide +kernel
theorem tz_51_51 : tw_E sc d 51 51 [x0, x1, x2, x3] st g mi mr Q = tw_E sc d 51 52 [x0, x1, x2, x3] (.int 1 :: st) g mi mr Q := tw_x_iconst td_51_51 (by decide)
theorem td_51_52 : decode (tw_cd 51) 52 = .ok (.goto 4, 3) := by decide +kernel
theorem tz_51_52 : tw_E sc d 51 52 [x0, x1, x2, x3] st g mi mr Q = tw_E sc d 51 56 [x0, x1, x2, x3] st g mi mr Q := tw_x_goto td_51_52 (by decide)
theorem td_51_55 : decode (tw_cd 51) 55 = .ok (.iconst 0, 1) := by decide +kernel
theorem tz_51_55 : tw_E sc d 51 55 [x0, x1, x2, x3] st g mi mr Q = tw_E sc d 51 56 [x0, x1, x2, x3] (.int 0 :: st) g mi mr Q := tw_x_iconst td_51_55 (by decide)
theorem td_51_56 : decode (tw_cd 51) 56 = .ok (.iload_n 3, 1) := by decide +kernel
theorem tz_51_56 : tw_E sc d 51 56 [x0, x1, x2, some (.int v)] st g mi mr Q = tw_E sc d 51 57 [x0, x1, x2, some (.int v)] (.int v :: st) g mi mr Q := tw_x_iload_n td_51_56 rfl
theorem td_51_57 : decode (tw_cd 51) 57 = .ok (.invokevirtual 45, 3) := by decide +kernel
theorem tz_51_57 {a0 : Int32} {a1 : Int32} : tw_E sc (d + 1) 51 57 [x0, x1, x2, x3] ([.int a1, .int a0, .ref a, s1]) g mi mr Q = (tw_kd g a = 2 ∧ tw_E sc d 57 0 [some (.ref a), some (.int a0), some (.int a1)] [] g mi mr (tw_K sc (d + 1) 51 60 [x0, x1, x2, x3] [s1] Q)) := tw_x_cv (as := [.int a0, .int a1]) (r := [s1]) td_51_57 to_51 tc_2_45 to_57 rfl rfl rfl rfl
theorem td_51_60 : decode (tw_cd 51) 60 = .ok (.ifCond .eq 7, 3) := by decide +kernel
theorem tz_51_60 : tw_E sc d 51 60 [x0, x1, x2, x3] (.int v :: st) g mi mr Q = if v = 0 then tw_E sc d 51 67 [x0, x1, x2, x3] st g mi mr Q else tw_E sc d 51 63 [x0, x1, x2, x3] st g mi mr Q := tw_x_if_eq td_51_60 (by decide)
theorem td_51_63 : decode (tw_cd 51) 63 = .ok (.iconst 1, 1) := by decide +kernel
theorem tz_51_63 : tw_E sc d 51 63 [x0, x1, x2, x3] st g mi mr Q = tw_E sc d 51 64 [x0, x1, x2, x3] (.int 1 :: st) g mi mr Q := tw_x_iconst td_51_63 (by decide)
theorem td_51_64 : decode (tw_cd 51) 64 = .ok (.goto 4, 3) := by decide +kernel
theorem tz_51_64 : tw_E sc d 51 64 [x0, x1, x2, x3] st g mi mr Q = tw_E sc d 51 68 [x0, x1, x2, x3] st g mi mr Q := tw_x_goto td_51_64 (by decide)
theorem td_51_67 : decode (tw_cd 51) 67 = .ok (.iconst 0, 1) := by decide +kernel
theorem tz_51_67 : tw_E sc d 51 67 [x0, x1, x2, x3] st g mi mr Q = tw_E sc d 51 68 [x0, x1, x2, x3] (.int 0 :: st) g mi mr Q := tw_x_iconst td_51_67 (by decide)
theorem td_51_68 : decode (tw_cd 51) 68 = .ok (.putfield 27, 3) := by decide +kernel
theorem tz_51_68 : tw_E sc d 51 68 [x0, x1, x2, x3] (.int v :: .ref a :: st) g mi mr Q = ((tw_kd g a = 2 ∧ (v = 0 ∨ v = 1)) ∧ tw_E sc d 51 71 [x0, x1, x2, x3] st g (tw_st mi a (tw_st (mi a) 5 v)) mr Q) := tw_x_putz td_51_68 to_51 tf_2_27 rfl rfl
theorem td_51_71 : decode (tw_cd 51) 71 = .ok (.return_, 1) := by decide +kernel
theorem tz_51_71 : tw_E sc d 51 71 [x0, x1, x2, x3] [] g mi mr Q = Q none g mi mr := tw_x_vret td_51_71 tr_51
end tz_51
-- 52: No_stepPair
section tz_52
variable {sc : Nat × (Nat → Int32)} {d : Nat} {x0 x1 x2 : Option Value} {st : List Value} {g : tw_G} {mi : tw_I} {mr : tw_Q} {Q : Option Value → tw_G → tw_I → tw_Q → Prop} {v w u : Int32} {a b : Nat} {j h : Int64} {s1 s2 s3 s4 : Value}
theorem td_52_0 : decode (tw_cd 52) 0 = .ok (.aload_n 0, 1) := by decide +kernel
theorem tz_52_0 : tw_E sc d 52 0 [some (.ref a), x1, x2] st g mi mr Q = tw_E sc d 52 1 [some (.ref a), x1, x2] (.ref a :: st) g mi mr Q := tw_x_aload_n td_52_0 rfl
theorem td_52_1 : decode (tw_cd 52) 1 = .ok (.aload_n 0, 1) := by decide +kernel
theorem tz_52_1 : tw_E sc d 52 1 [some (.ref a), x1, x2] st g mi mr Q = tw_E sc d 52 2 [some (.ref a), x1, x2] (.ref a :: st) g mi mr Q := tw_x_aload_n td_52_1 rfl
theorem td_52_2 : decode (tw_cd 52) 2 = .ok (.getfield 9, 3) := by decide +kernel
theorem tz_52_2 : tw_E sc d 52 2 [x0, x1, x2] (.ref a :: st) g mi mr Q = (tw_kd g a = 2 ∧ tw_E sc d 52 5 [x0, x1, x2] (.int (mi a 0) :: st) g mi mr Q) := tw_x_geti td_52_2 to_52 tf_2_9 (trf_2_0)
theorem td_52_5 : decode (tw_cd 52) 5 = .ok (.iconst 3, 1) := by decide +kernel
theorem tz_52_5 : tw_E sc d 52 5 [x0, x1, x2] st g mi mr Q = tw_E sc d 52 6 [x0, x1, x2] (.int 3 :: st) g mi mr Q := tw_x_iconst td_52_5 (by decide)
theorem td_52_6 : decode (tw_cd 52) 6 = .ok (.if_icmp .ne 19, 3) := by decide +kernel
theorem tz_52_6 : tw_E sc d 52 6 [x0, x1, x2] (.int w :: .int v :: st) g mi mr Q = if ¬ v = w then tw_E sc d 52 25 [x0, x1, x2] st g mi mr Q else tw_E sc d 52 9 [x0, x1, x2] st g mi mr Q := tw_x_ic_ne td_52_6 (by decide)
theorem td_52_9 : decode (tw_cd 52) 9 = .ok (.iload_n 1, 1) := by decide +kernel
theorem tz_52_9 : tw_E sc d 52 9 [x0, some (.int v), x2] st g mi mr Q = tw_E sc d 52 10 [x0, some (.int v), x2] (.int v :: st) g mi mr Q := tw_x_iload_n td_52_9 rfl
theorem td_52_10 : decode (tw_cd 52) 10 = .ok (.ifCond .eq 11, 3) := by decide +kernel
theorem tz_52_10 : tw_E sc d 52 10 [x0, x1, x2] (.int v :: st) g mi mr Q = if v = 0 then tw_E sc d 52 21 [x0, x1, x2] st g mi mr Q else tw_E sc d 52 13 [x0, x1, x2] st g mi mr Q := tw_x_if_eq td_52_10 (by decide)
theorem td_52_13 : decode (tw_cd 52) 13 = .ok (.iload_n 2, 1) := by decide +kernel
theorem tz_52_13 : tw_E sc d 52 13 [x0, x1, some (.int v)] st g mi mr Q = tw_E sc d 52 14 [x0, x1, some (.int v)] (.int v :: st) g mi mr Q := tw_x_iload_n td_52_13 rfl
theorem td_52_14 : decode (tw_cd 52) 14 = .ok (.ifCond .eq 7, 3) := by decide +kernel
theorem tz_52_14 : tw_E sc d 52 14 [x0, x1, x2] (.int v :: st) g mi mr Q = if v = 0 then tw_E sc d 52 21 [x0, x1, x2] st g mi mr Q else tw_E sc d 52 17 [x0, x1, x2] st g mi mr Q := tw_x_if_eq td_52_14 (by decide)
theorem td_52_17 : decode (tw_cd 52) 17 = .ok (.iconst 1, 1) := by decide +kernel
theorem tz_52_17 : tw_E sc d 52 17 [x0, x1, x2] st g mi mr Q = tw_E sc d 52 18 [x0, x1, x2] (.int 1 :: st) g mi mr Q := tw_x_iconst td_52_17 (by decide)
theorem td_52_18 : decode (tw_cd 52) 18 = .ok (.goto 20, 3) := by decide +kernel
theorem tz_52_18 : tw_E sc d 52 18 [x0, x1, x2] st g mi mr Q = tw_E sc d 52 38 [x0, x1, x2] st g mi mr Q := tw_x_goto td_52_18 (by decide)
theorem td_52_21 : decode (tw_cd 52) 21 = .ok (.iconst 0, 1) := by decide +kernel
theorem tz_52_21 : tw_E sc d 52 21 [x0, x1, x2] st g mi mr Q = tw_E sc d 52 22 [x0, x1, x2] (.int 0 :: st) g mi mr Q := tw_x_iconst td_52_21 (by decide)
theorem td_52_22 : decode (tw_cd 52) 22 = .ok (.goto 16, 3) := by decide +kernel
theorem tz_52_22 : tw_E sc d 52 22 [x0, x1, x2] st g mi mr Q = tw_E sc d 52 38 [x0, x1, x2] st g mi mr Q := tw_x_goto td_52_22 (by decide)
theorem td_52_25 : decode (tw_cd 52) 25 = .ok (.iload_n 1, 1) := by decide +kernel
theorem tz_52_25 : tw_E sc d 52 25 [x0, some (.int v), x2] st g mi mr Q = tw_E sc d 52 26 [x0, some (.int v), x2] (.int v :: st) g mi mr Q := tw_x_iload_n td_52_25 rfl
theorem td_52_26 : decode (tw_cd 52) 26 = .ok (.ifCond .ne 7, 3) := by decide +kernel
theorem tz_52_26 : tw_E sc d 52 26 [x0, x1, x2] (.int v :: st) g mi mr Q = if ¬ v = 0 then tw_E sc d 52 33 [x0, x1, x2] st g mi mr Q else tw_E sc d 52 29 [x0, x1, x2] st g mi mr Q := tw_x_if_ne td_52_26 (by decide)
theorem td_52_29 : decode (tw_cd 52) 29 = .ok (.iload_n 2, 1) := by decide +kernel
theorem tz_52_29 : tw_E sc d 52 29 [x0, x1, some (.int v)] st g mi mr Q = tw_E sc d 52 30 [x0, x1, some (.int v)] (.int v :: st) g mi mr Q := tw_x_iload_n td_52_29 rfl
theorem td_52_30 : decode (tw_cd 52) 30 = .ok (.ifCond .eq 7, 3) := by decide +kernel
theorem tz_52_30 : tw_E sc d 52 30 [x0, x1, x2] (.int v :: st) g mi mr Q = if v = 0 then tw_E sc d 52 37 [x0, x1, x2] st g mi mr Q else tw_E sc d 52 33 [x0, x1, x2] st g mi mr Q := tw_x_if_eq td_52_30 (by decide)
theorem td_52_33 : decode (tw_cd 52) 33 = .ok (.iconst 1, 1) := by decide +kernel
theorem tz_52_33 : tw_E sc d 52 33 [x0, x1, x2] st g mi mr Q = tw_E sc d 52 34 [x0, x1, x2] (.int 1 :: st) g mi mr Q := tw_x_iconst td_52_33 (by decide)
theorem td_52_34 : decode (tw_cd 52) 34 = .ok (.goto 4, 3) := by decide +kernel
theorem tz_52_34 : tw_E sc d 52 34 [x0, x1, x2] st g mi mr Q = tw_E sc d 52 38 [x0, x1, x2] st g mi mr Q := tw_x_goto td_52_34 (by decide)
theorem td_52_37 : decode (tw_cd 52) 37 = .ok (.iconst 0, 1) := by decide +kernel
theorem tz_52_37 : tw_E sc d 52 37 [x0, x1, x2] st g mi mr Q = tw_E sc d 52 38 [x0, x1, x2] (.int 0 :: st) g mi mr Q := tw_x_iconst td_52_37 (by decide)
theorem td_52_38 : decode (tw_cd 52) 38 = .ok (.putfield 27, 3) := by decide +kernel
theorem tz_52_38 : tw_E sc d 52 38 [x0, x1, x2] (.int v :: .ref a :: st) g mi mr Q = ((tw_kd g a = 2 ∧ (v = 0 ∨ v = 1)) ∧ tw_E sc d 52 41 [x0, x1, x2] st g (tw_st mi a (tw_st (mi a) 5 v)) mr Q) := tw_x_putz td_52_38 to_52 tf_2_27 rfl rfl
theorem td_52_41 : decode (tw_cd 52) 41 = .ok (.return_, 1) := by decide +kernel
theorem tz_52_41 : tw_E sc d 52 41 [x0, x1, x2] [] g mi mr Q = Q none g mi mr := tw_x_vret td_52_41 tr_52
end tz_52
-- 53: No_stepNot
section tz_53
variable {sc : Nat × (Nat → Int32)} {d : Nat} {x0 x1 : Option Value} {st : List Value} {g : tw_G} {mi : tw_I} {mr : tw_Q} {Q : Option Value → tw_G → tw_I → tw_Q → Prop} {v w u : Int32} {a b : Nat} {j h : Int64} {s1 s2 s3 s4 : Value}
theorem td_53_0 : decode (tw_cd 53) 0 = .ok (.aload_n 0, 1) := by decide +kernel
theorem tz_53_0 : tw_E sc d 53 0 [some (.ref a), x1] st g mi mr Q = tw_E sc d 53 1 [some (.ref a), x1] (.ref a :: st) g mi mr Q := tw_x_aload_n td_53_0 rfl
theorem td_53_1 : decode (tw_cd 53) 1 = .ok (.iload_n 1, 1) := by decide +kernel
theorem tz_53_1 : tw_E sc d 53 1 [x0, some (.int v)] st g mi mr Q = tw_E sc d 53 2 [x0, some (.int v)] (.int v :: st) g mi mr Q := tw_x_iload_n td_53_1 rfl
theorem td_53_2 : decode (tw_cd 53) 2 = .ok (.ifCond .ne 7, 3) := by decide +kernel
theorem tz_53_2 : tw_E sc d 53 2 [x0, x1] (.int v :: st) g mi mr Q = if ¬ v = 0 then tw_E sc d 53 9 [x0, x1] st g mi mr Q else tw_E sc d 53 5 [x0, x1] st g mi mr Q := tw_x_if_ne td_53_2 (by decide)
theorem td_53_5 : decode (tw_cd 53) 5 = .ok (.iconst 1, 1) := by decide +kernel
theorem tz_53_5 : tw_E sc d 53 5 [x0, x1] st g mi mr Q = tw_E sc d 53 6 [x0, x1] (.int 1 :: st) g mi mr Q := tw_x_iconst td_53_5 (by decide)
theorem td_53_6 : decode (tw_cd 53) 6 = .ok (.goto 4, 3) := by decide +kernel
theorem tz_53_6 : tw_E sc d 53 6 [x0, x1] st g mi mr Q = tw_E sc d 53 10 [x0, x1] st g mi mr Q := tw_x_goto td_53_6 (by decide)
theorem td_53_9 : decode (tw_cd 53) 9 = .ok (.iconst 0, 1) := by decide +kernel
theorem tz_53_9 : tw_E sc d 53 9 [x0, x1] st g mi mr Q = tw_E sc d 53 10 [x0, x1] (.int 0 :: st) g mi mr Q := tw_x_iconst td_53_9 (by decide)
theorem td_53_10 : decode (tw_cd 53) 10 = .ok (.putfield 27, 3) := by decide +kernel
theorem tz_53_10 : tw_E sc d 53 10 [x0, x1] (.int v :: .ref a :: st) g mi mr Q = ((tw_kd g a = 2 ∧ (v = 0 ∨ v = 1)) ∧ tw_E sc d 53 13 [x0, x1] st g (tw_st mi a (tw_st (mi a) 5 v)) mr Q) := tw_x_putz td_53_10 to_53 tf_2_27 rfl rfl
theorem td_53_13 : decode (tw_cd 53) 13 = .ok (.return_, 1) := by decide +kernel
theorem tz_53_13 : tw_E sc d 53 13 [x0, x1] [] g mi mr Q = Q none g mi mr := tw_x_vret td_53_13 tr_53
end tz_53
-- 54: No_stepCounted
section tz_54
variable {sc : Nat × (Nat → Int32)} {d : Nat} {x0 x1 : Option Value} {st : List Value} {g : tw_G} {mi : tw_I} {mr : tw_Q} {Q : Option Value → tw_G → tw_I → tw_Q → Prop} {v w u : Int32} {a b : Nat} {j h : Int64} {s1 s2 s3 s4 : Value}
theorem td_54_0 : decode (tw_cd 54) 0 = .ok (.iload_n 1, 1) := by decide +kernel
theorem tz_54_0 : tw_E sc d 54 0 [x0, some (.int v)] st g mi mr Q = tw_E sc d 54 1 [x0, some (.int v)] (.int v :: st) g mi mr Q := tw_x_iload_n td_54_0 rfl
theorem td_54_1 : decode (tw_cd 54) 1 = .ok (.ifCond .eq 13, 3) := by decide +kernel
theorem tz_54_1 : tw_E sc d 54 1 [x0, x1] (.int v :: st) g mi mr Q = if v = 0 then tw_E sc d 54 14 [x0, x1] st g mi mr Q else tw_E sc d 54 4 [x0, x1] st g mi mr Q := tw_x_if_eq td_54_1 (by decide)
theorem td_54_4 : decode (tw_cd 54) 4 = .ok (.aload_n 0, 1) := by decide +kernel
theorem tz_54_4 : tw_E sc d 54 4 [some (.ref a), x1] st g mi mr Q = tw_E sc d 54 5 [some (.ref a), x1] (.ref a :: st) g mi mr Q := tw_x_aload_n td_54_4 rfl
theorem td_54_5 : decode (tw_cd 54) 5 = .ok (.dup, 1) := by decide +kernel
theorem tz_54_5 : tw_E sc d 54 5 [x0, x1] (.ref a :: st) g mi mr Q = tw_E sc d 54 6 [x0, x1] (.ref a :: .ref a :: st) g mi mr Q := tw_x_dup_ref td_54_5
theorem td_54_6 : decode (tw_cd 54) 6 = .ok (.getfield 31, 3) := by decide +kernel
theorem tz_54_6 : tw_E sc d 54 6 [x0, x1] (.ref a :: st) g mi mr Q = (tw_kd g a = 2 ∧ tw_E sc d 54 9 [x0, x1] (.int (mi a 6) :: st) g mi mr Q) := tw_x_geti td_54_6 to_54 tf_2_31 (trf_2_6)
theorem td_54_9 : decode (tw_cd 54) 9 = .ok (.iconst 1, 1) := by decide +kernel
theorem tz_54_9 : tw_E sc d 54 9 [x0, x1] st g mi mr Q = tw_E sc d 54 10 [x0, x1] (.int 1 :: st) g mi mr Q := tw_x_iconst td_54_9 (by decide)
theorem td_54_10 : decode (tw_cd 54) 10 = .ok (.iadd, 1) := by decide +kernel
theorem tz_54_10 : tw_E sc d 54 10 [x0, x1] (.int w :: .int v :: st) g mi mr Q = tw_E sc d 54 11 [x0, x1] (.int (v + w) :: st) g mi mr Q := tw_x_iadd td_54_10
theorem td_54_11 : decode (tw_cd 54) 11 = .ok (.putfield 31, 3) := by decide +kernel
theorem tz_54_11 : tw_E sc d 54 11 [x0, x1] (.int v :: .ref a :: st) g mi mr Q = (tw_kd g a = 2 ∧ tw_E sc d 54 14 [x0, x1] st g (tw_st mi a (tw_st (mi a) 6 v)) mr Q) := tw_x_puti td_54_11 to_54 tf_2_31 rfl rfl
theorem td_54_14 : decode (tw_cd 54) 14 = .ok (.aload_n 0, 1) := by decide +kernel
theorem tz_54_14 : tw_E sc d 54 14 [some (.ref a), x1] st g mi mr Q = tw_E sc d 54 15 [some (.ref a), x1] (.ref a :: st) g mi mr Q := tw_x_aload_n td_54_14 rfl
theorem td_54_15 : decode (tw_cd 54) 15 = .ok (.iload_n 1, 1) := by decide +kernel
theorem tz_54_15 : tw_E sc d 54 15 [x0, some (.int v)] st g mi mr Q = tw_E sc d 54 16 [x0, some (.int v)] (.int v :: st) g mi mr Q := tw_x_iload_n td_54_15 rfl
theorem td_54_16 : decode (tw_cd 54) 16 = .ok (.ifCond .eq 26, 3) := by decide +kernel
theorem tz_54_16 : tw_E sc d 54 16 [x0, x1] (.int v :: st) g mi mr Q = if v = 0 then tw_E sc d 54 42 [x0, x1] st g mi mr Q else tw_E sc d 54 19 [x0, x1] st g mi mr Q := tw_x_if_eq td_54_16 (by decide)
theorem td_54_19 : decode (tw_cd 54) 19 = .ok (.aload_n 0, 1) := by decide +kernel
theorem tz_54_19 : tw_E sc d 54 19 [some (.ref a), x1] st g mi mr Q = tw_E sc d 54 20 [some (.ref a), x1] (.ref a :: st) g mi mr Q := tw_x_aload_n td_54_19 rfl
theorem td_54_20 : decode (tw_cd 54) 20 = .ok (.getfield 21, 3) := by decide +kernel
theorem tz_54_20 : tw_E sc d 54 20 [x0, x1] (.ref a :: st) g mi mr Q = (tw_kd g a = 2 ∧ tw_E sc d 54 23 [x0, x1] (.int (mi a 3) :: st) g mi mr Q) := tw_x_geti td_54_20 to_54 tf_2_21 (trf_2_3)
theorem td_54_23 : decode (tw_cd 54) 23 = .ok (.ifCond .le 19, 3) := by decide +kernel
theorem tz_54_23 : tw_E sc d 54 23 [x0, x1] (.int v :: st) g mi mr Q = if v ≤ 0 then tw_E sc d 54 42 [x0, x1] st g mi mr Q else tw_E sc d 54 26 [x0, x1] st g mi mr Q := tw_x_if_le td_54_23 (by decide)
theorem td_54_26 : decode (tw_cd 54) 26 = .ok (.aload_n 0, 1) := by decide +kernel
theorem tz_54_26 : tw_E sc d 54 26 [some (.ref a), x1] st g mi mr Q = tw_E sc d 54 27 [some (.ref a), x1] (.ref a :: st) g mi mr Q := tw_x_aload_n td_54_26 rfl
theorem td_54_27 : decode (tw_cd 54) 27 = .ok (.getfield 31, 3) := by decide +kernel
theorem tz_54_27 : tw_E sc d 54 27 [x0, x1] (.ref a :: st) g mi mr Q = (tw_kd g a = 2 ∧ tw_E sc d 54 30 [x0, x1] (.int (mi a 6) :: st) g mi mr Q) := tw_x_geti td_54_27 to_54 tf_2_31 (trf_2_6)
theorem td_54_30 : decode (tw_cd 54) 30 = .ok (.aload_n 0, 1) := by decide +kernel
theorem tz_54_30 : tw_E sc d 54 30 [some (.ref a), x1] st g mi mr Q = tw_E sc d 54 31 [some (.ref a), x1] (.ref a :: st) g mi mr Q := tw_x_aload_n td_54_30 rfl
theorem td_54_31 : decode (tw_cd 54) 31 = .ok (.getfield 21, 3) := by decide +kernel
theorem tz_54_31 : tw_E sc d 54 31 [x0, x1] (.ref a :: st) g mi mr Q = (tw_kd g a = 2 ∧ tw_E sc d 54 34 [x0, x1] (.int (mi a 3) :: st) g mi mr Q) := tw_x_geti td_54_31 to_54 tf_2_21 (trf_2_3)
theorem td_54_34 : decode (tw_cd 54) 34 = .ok (.irem, 1) := by decide +kernel
theorem tz_54_34 : tw_E sc d 54 34 [x0, x1] (.int w :: .int v :: st) g mi mr Q = (¬ w = 0 ∧ tw_E sc d 54 35 [x0, x1] (.int (v - v / w * w) :: st) g mi mr Q) := tw_x_irem td_54_34
theorem td_54_35 : decode (tw_cd 54) 35 = .ok (.ifCond .ne 7, 3) := by decide +kernel
theorem tz_54_35 : tw_E sc d 54 35 [x0, x1] (.int v :: st) g mi mr Q = if ¬ v = 0 then tw_E sc d 54 42 [x0, x1] st g mi mr Q else tw_E sc d 54 38 [x0, x1] st g mi mr Q := tw_x_if_ne td_54_35 (by decide)
theorem td_54_38 : decode (tw_cd 54) 38 = .ok (.iconst 1, 1) := by decide +kernel
theorem tz_54_38 : tw_E sc d 54 38 [x0, x1] st g mi mr Q = tw_E sc d 54 39 [x0, x1] (.int 1 :: st) g mi mr Q := tw_x_iconst td_54_38 (by decide)
theorem td_54_39 : decode (tw_cd 54) 39 = .ok (.goto 4, 3) := by decide +kernel
theorem tz_54_39 : tw_E sc d 54 39 [x0, x1] st g mi mr Q = tw_E sc d 54 43 [x0, x1] st g mi mr Q := tw_x_goto td_54_39 (by decide)
theorem td_54_42 : decode (tw_cd 54) 42 = .ok (.iconst 0, 1) := by decide +kernel
theorem tz_54_42 : tw_E sc d 54 42 [x0, x1] st g mi mr Q = tw_E sc d 54 43 [x0, x1] (.int 0 :: st) g mi mr Q := tw_x_iconst td_54_42 (by decide)
theorem td_54_43 : decode (tw_cd 54) 43 = .ok (.putfield 27, 3) := by decide +kernel
theorem tz_54_43 : tw_E sc d 54 43 [x0, x1] (.int v :: .ref a :: st) g mi mr Q = ((tw_kd g a = 2 ∧ (v = 0 ∨ v = 1)) ∧ tw_E sc d 54 46 [x0, x1] st g (tw_st mi a (tw_st (mi a) 5 v)) mr Q) := tw_x_putz td_54_43 to_54 tf_2_27 rfl rfl
theorem td_54_46 : decode (tw_cd 54) 46 = .ok (.return_, 1) := by decide +kernel
theorem tz_54_46 : tw_E sc d 54 46 [x0, x1] [] g mi mr Q = Q none g mi mr := tw_x_vret td_54_46 tr_54
end tz_54
-- 55: No_stepArmed
section tz_55
variable {sc : Nat × (Nat → Int32)} {d : Nat} {x0 x1 x2 x3 : Option Value} {st : List Value} {g : tw_G} {mi : tw_I} {mr : tw_Q} {Q : Option Value → tw_G → tw_I → tw_Q → Prop} {v w u : Int32} {a b : Nat} {j h : Int64} {s1 s2 s3 s4 : Value}
theorem td_55_0 : decode (tw_cd 55) 0 = .ok (.aload_n 0, 1) := by decide +kernel
theorem tz_55_0 : tw_E sc d 55 0 [some (.ref a), x1, x2, x3] st g mi mr Q = tw_E sc d 55 1 [some (.ref a), x1, x2, x3] (.ref a :: st) g mi mr Q := tw_x_aload_n td_55_0 rfl
theorem td_55_1 : decode (tw_cd 55) 1 = .ok (.iconst 0, 1) := by decide +kernel
theorem tz_55_1 : tw_E sc d 55 1 [x0, x1, x2, x3] st g mi mr Q = tw_E sc d 55 2 [x0, x1, x2, x3] (.int 0 :: st) g mi mr Q := tw_x_iconst td_55_1 (by decide)
theorem td_55_2 : decode (tw_cd 55) 2 = .ok (.putfield 27, 3) := by decide +kernel
theorem tz_55_2 : tw_E sc d 55 2 [x0, x1, x2, x3] (.int v :: .ref a :: st) g mi mr Q = ((tw_kd g a = 2 ∧ (v = 0 ∨ v = 1)) ∧ tw_E sc d 55 5 [x0, x1, x2, x3] st g (tw_st mi a (tw_st (mi a) 5 v)) mr Q) := tw_x_putz td_55_2 to_55 tf_2_27 rfl rfl
theorem td_55_5 : decode (tw_cd 55) 5 = .ok (.aload_n 0, 1) := by decide +kernel
theorem tz_55_5 : tw_E sc d 55 5 [some (.ref a), x1, x2, x3] st g mi mr Q = tw_E sc d 55 6 [some (.ref a), x1, x2, x3] (.ref a :: st) g mi mr Q := tw_x_aload_n td_55_5 rfl
theorem td_55_6 : decode (tw_cd 55) 6 = .ok (.getfield 9, 3) := by decide +kernel
theorem tz_55_6 : tw_E sc d 55 6 [x0, x1, x2, x3] (.ref a :: st) g mi mr Q = (tw_kd g a = 2 ∧ tw_E sc d 55 9 [x0, x1, x2, x3] (.int (mi a 0) :: st) g mi mr Q) := tw_x_geti td_55_6 to_55 tf_2_9 (trf_2_0)
theorem td_55_9 : decode (tw_cd 55) 9 = .ok (.bipush 7, 2) := by decide +kernel
theorem tz_55_9 : tw_E sc d 55 9 [x0, x1, x2, x3] st g mi mr Q = tw_E sc d 55 11 [x0, x1, x2, x3] (.int 7 :: st) g mi mr Q := tw_x_bipush td_55_9 (by decide)
theorem td_55_11 : decode (tw_cd 55) 11 = .ok (.if_icmp .ne 31, 3) := by decide +kernel
theorem tz_55_11 : tw_E sc d 55 11 [x0, x1, x2, x3] (.int w :: .int v :: st) g mi mr Q = if ¬ v = w then tw_E sc d 55 42 [x0, x1, x2, x3] st g mi mr Q else tw_E sc d 55 14 [x0, x1, x2, x3] st g mi mr Q := tw_x_ic_ne td_55_11 (by decide)
theorem td_55_14 : decode (tw_cd 55) 14 = .ok (.aload_n 0, 1) := by decide +kernel
theorem tz_55_14 : tw_E sc d 55 14 [some (.ref a), x1, x2, x3] st g mi mr Q = tw_E sc d 55 15 [some (.ref a), x1, x2, x3] (.ref a :: st) g mi mr Q := tw_x_aload_n td_55_14 rfl
theorem td_55_15 : decode (tw_cd 55) 15 = .ok (.getfield 34, 3) := by decide +kernel
theorem tz_55_15 : tw_E sc d 55 15 [x0, x1, x2, x3] (.ref a :: st) g mi mr Q = (tw_kd g a = 2 ∧ tw_E sc d 55 18 [x0, x1, x2, x3] (.int (mi a 7) :: st) g mi mr Q) := tw_x_geti td_55_15 to_55 tf_2_34 (trf_2_7)
theorem td_55_18 : decode (tw_cd 55) 18 = .ok (.bipush (-9), 2) := by decide +kernel
theorem tz_55_18 : tw_E sc d 55 18 [x0, x1, x2, x3] st g mi mr Q = tw_E sc d 55 20 [x0, x1, x2, x3] (.int (-9) :: st) g mi mr Q := tw_x_bipush td_55_18 (by decide)
theorem td_55_20 : decode (tw_cd 55) 20 = .ok (.if_icmp .eq 22, 3) := by decide +kernel
theorem tz_55_20 : tw_E sc d 55 20 [x0, x1, x2, x3] (.int w :: .int v :: st) g mi mr Q = if v = w then tw_E sc d 55 42 [x0, x1, x2, x3] st g mi mr Q else tw_E sc d 55 23 [x0, x1, x2, x3] st g mi mr Q := tw_x_ic_eq td_55_20 (by decide)
theorem td_55_23 : decode (tw_cd 55) 23 = .ok (.iload_n 1, 1) := by decide +kernel
theorem tz_55_23 : tw_E sc d 55 23 [x0, some (.int v), x2, x3] st g mi mr Q = tw_E sc d 55 24 [x0, some (.int v), x2, x3] (.int v :: st) g mi mr Q := tw_x_iload_n td_55_23 rfl
theorem td_55_24 : decode (tw_cd 55) 24 = .ok (.aload_n 0, 1) := by decide +kernel
theorem tz_55_24 : tw_E sc d 55 24 [some (.ref a), x1, x2, x3] st g mi mr Q = tw_E sc d 55 25 [some (.ref a), x1, x2, x3] (.ref a :: st) g mi mr Q := tw_x_aload_n td_55_24 rfl
theorem td_55_25 : decode (tw_cd 55) 25 = .ok (.getfield 34, 3) := by decide +kernel
theorem tz_55_25 : tw_E sc d 55 25 [x0, x1, x2, x3] (.ref a :: st) g mi mr Q = (tw_kd g a = 2 ∧ tw_E sc d 55 28 [x0, x1, x2, x3] (.int (mi a 7) :: st) g mi mr Q) := tw_x_geti td_55_25 to_55 tf_2_34 (trf_2_7)
theorem td_55_28 : decode (tw_cd 55) 28 = .ok (.isub, 1) := by decide +kernel
theorem tz_55_28 : tw_E sc d 55 28 [x0, x1, x2, x3] (.int w :: .int v :: st) g mi mr Q = tw_E sc d 55 29 [x0, x1, x2, x3] (.int (v - w) :: st) g mi mr Q := tw_x_isub td_55_28
theorem td_55_29 : decode (tw_cd 55) 29 = .ok (.aload_n 0, 1) := by decide +kernel
theorem tz_55_29 : tw_E sc d 55 29 [some (.ref a), x1, x2, x3] st g mi mr Q = tw_E sc d 55 30 [some (.ref a), x1, x2, x3] (.ref a :: st) g mi mr Q := tw_x_aload_n td_55_29 rfl
theorem td_55_30 : decode (tw_cd 55) 30 = .ok (.getfield 24, 3) := by decide +kernel
theorem tz_55_30 : tw_E sc d 55 30 [x0, x1, x2, x3] (.ref a :: st) g mi mr Q = (tw_kd g a = 2 ∧ tw_E sc d 55 33 [x0, x1, x2, x3] (.int (mi a 4) :: st) g mi mr Q) := tw_x_geti td_55_30 to_55 tf_2_24 (trf_2_4)
theorem td_55_33 : decode (tw_cd 55) 33 = .ok (.if_icmp .le 9, 3) := by decide +kernel
theorem tz_55_33 : tw_E sc d 55 33 [x0, x1, x2, x3] (.int w :: .int v :: st) g mi mr Q = if v ≤ w then tw_E sc d 55 42 [x0, x1, x2, x3] st g mi mr Q else tw_E sc d 55 36 [x0, x1, x2, x3] st g mi mr Q := tw_x_ic_le td_55_33 (by decide)
theorem td_55_36 : decode (tw_cd 55) 36 = .ok (.aload_n 0, 1) := by decide +kernel
theorem tz_55_36 : tw_E sc d 55 36 [some (.ref a), x1, x2, x3] st g mi mr Q = tw_E sc d 55 37 [some (.ref a), x1, x2, x3] (.ref a :: st) g mi mr Q := tw_x_aload_n td_55_36 rfl
theorem td_55_37 : decode (tw_cd 55) 37 = .ok (.bipush (-9), 2) := by decide +kernel
theorem tz_55_37 : tw_E sc d 55 37 [x0, x1, x2, x3] st g mi mr Q = tw_E sc d 55 39 [x0, x1, x2, x3] (.int (-9) :: st) g mi mr Q := tw_x_bipush td_55_37 (by decide)
theorem td_55_39 : decode (tw_cd 55) 39 = .ok (.putfield 34, 3) := by decide +kernel
theorem tz_55_39 : tw_E sc d 55 39 [x0, x1, x2, x3] (.int v :: .ref a :: st) g mi mr Q = (tw_kd g a = 2 ∧ tw_E sc d 55 42 [x0, x1, x2, x3] st g (tw_st mi a (tw_st (mi a) 7 v)) mr Q) := tw_x_puti td_55_39 to_55 tf_2_34 rfl rfl
theorem td_55_42 : decode (tw_cd 55) 42 = .ok (.aload_n 0, 1) := by decide +kernel
theorem tz_55_42 : tw_E sc d 55 42 [some (.ref a), x1, x2, x3] st g mi mr Q = tw_E sc d 55 43 [some (.ref a), x1, x2, x3] (.ref a :: st) g mi mr Q := tw_x_aload_n td_55_42 rfl
theorem td_55_43 : decode (tw_cd 55) 43 = .ok (.getfield 34, 3) := by decide +kernel
theorem tz_55_43 : tw_E sc d 55 43 [x0, x1, x2, x3] (.ref a :: st) g mi mr Q = (tw_kd g a = 2 ∧ tw_E sc d 55 46 [x0, x1, x2, x3] (.int (mi a 7) :: st) g mi mr Q) := tw_x_geti td_55_43 to_55 tf_2_34 (trf_2_7)
theorem td_55_46 : decode (tw_cd 55) 46 = .ok (.bipush (-9), 2) := by decide +kernel
theorem tz_55_46 : tw_E sc d 55 46 [x0, x1, x2, x3] st g mi mr Q = tw_E sc d 55 48 [x0, x1, x2, x3] (.int (-9) :: st) g mi mr Q := tw_x_bipush td_55_46 (by decide)
theorem td_55_48 : decode (tw_cd 55) 48 = .ok (.if_icmp .ne 20, 3) := by decide +kernel
theorem tz_55_48 : tw_E sc d 55 48 [x0, x1, x2, x3] (.int w :: .int v :: st) g mi mr Q = if ¬ v = w then tw_E sc d 55 68 [x0, x1, x2, x3] st g mi mr Q else tw_E sc d 55 51 [x0, x1, x2, x3] st g mi mr Q := tw_x_ic_ne td_55_48 (by decide)
theorem td_55_51 : decode (tw_cd 55) 51 = .ok (.aload_n 0, 1) := by decide +kernel
theorem tz_55_51 : tw_E sc d 55 51 [some (.ref a), x1, x2, x3] st g mi mr Q = tw_E sc d 55 52 [some (.ref a), x1, x2, x3] (.ref a :: st) g mi mr Q := tw_x_aload_n td_55_51 rfl
theorem td_55_52 : decode (tw_cd 55) 52 = .ok (.iload_n 2, 1) := by decide +kernel
theorem tz_55_52 : tw_E sc d 55 52 [x0, x1, some (.int v), x3] st g mi mr Q = tw_E sc d 55 53 [x0, x1, some (.int v), x3] (.int v :: st) g mi mr Q := tw_x_iload_n td_55_52 rfl
theorem td_55_53 : decode (tw_cd 55) 53 = .ok (.ifCond .eq 7, 3) := by decide +kernel
theorem tz_55_53 : tw_E sc d 55 53 [x0, x1, x2, x3] (.int v :: st) g mi mr Q = if v = 0 then tw_E sc d 55 60 [x0, x1, x2, x3] st g mi mr Q else tw_E sc d 55 56 [x0, x1, x2, x3] st g mi mr Q := tw_x_if_eq td_55_53 (by decide)
theorem td_55_56 : decode (tw_cd 55) 56 = .ok (.iload_n 1, 1) := by decide +kernel
theorem tz_55_56 : tw_E sc d 55 56 [x0, some (.int v), x2, x3] st g mi mr Q = tw_E sc d 55 57 [x0, some (.int v), x2, x3] (.int v :: st) g mi mr Q := tw_x_iload_n td_55_56 rfl
theorem td_55_57 : decode (tw_cd 55) 57 = .ok (.goto 5, 3) := by decide +kernel
theorem tz_55_57 : tw_E sc d 55 57 [x0, x1, x2, x3] st g mi mr Q = tw_E sc d 55 62 [x0, x1, x2, x3] st g mi mr Q := tw_x_goto td_55_57 (by decide)
theorem td_55_60 : decode (tw_cd 55) 60 = .ok (.bipush (-9), 2) := by decide +kernel
theorem tz_55_60 : tw_E sc d 55 60 [x0, x1, x2, x3] st g mi mr Q = tw_E sc d 55 62 [x0, x1, x2, x3] (.int (-9) :: st) g mi mr Q := tw_x_bipush td_55_60 (by decide)
theorem td_55_62 : decode (tw_cd 55) 62 = .ok (.putfield 34, 3) := by decide +kernel
theorem tz_55_62 : tw_E sc d 55 62 [x0, x1, x2, x3] (.int v :: .ref a :: st) g mi mr Q = (tw_kd g a = 2 ∧ tw_E sc d 55 65 [x0, x1, x2, x3] st g (tw_st mi a (tw_st (mi a) 7 v)) mr Q) := tw_x_puti td_55_62 to_55 tf_2_34 rfl rfl
theorem td_55_65 : decode (tw_cd 55) 65 = .ok (.goto 40, 3) := by decide +kernel
theorem tz_55_65 : tw_E sc d 55 65 [x0, x1, x2, x3] st g mi mr Q = tw_E sc d 55 105 [x0, x1, x2, x3] st g mi mr Q := tw_x_goto td_55_65 (by decide)
theorem td_55_68 : decode (tw_cd 55) 68 = .ok (.iload_n 3, 1) := by decide +kernel
theorem tz_55_68 : tw_E sc d 55 68 [x0, x1, x2, some (.int v)] st g mi mr Q = tw_E sc d 55 69 [x0, x1, x2, some (.int v)] (.int v :: st) g mi mr Q := tw_x_iload_n td_55_68 rfl
theorem td_55_69 : decode (tw_cd 55) 69 = .ok (.ifCond .eq 36, 3) := by decide +kernel
theorem tz_55_69 : tw_E sc d 55 69 [x0, x1, x2, x3] (.int v :: st) g mi mr Q = if v = 0 then tw_E sc d 55 105 [x0, x1, x2, x3] st g mi mr Q else tw_E sc d 55 72 [x0, x1, x2, x3] st g mi mr Q := tw_x_if_eq td_55_69 (by decide)
theorem td_55_72 : decode (tw_cd 55) 72 = .ok (.aload_n 0, 1) := by decide +kernel
theorem tz_55_72 : tw_E sc d 55 72 [some (.ref a), x1, x2, x3] st g mi mr Q = tw_E sc d 55 73 [some (.ref a), x1, x2, x3] (.ref a :: st) g mi mr Q := tw_x_aload_n td_55_72 rfl
theorem td_55_73 : decode (tw_cd 55) 73 = .ok (.getfield 9, 3) := by decide +kernel
theorem tz_55_73 : tw_E sc d 55 73 [x0, x1, x2, x3] (.ref a :: st) g mi mr Q = (tw_kd g a = 2 ∧ tw_E sc d 55 76 [x0, x1, x2, x3] (.int (mi a 0) :: st) g mi mr Q) := tw_x_geti td_55_73 to_55 tf_2_9 (trf_2_0)
theorem td_55_76 : decode (tw_cd 55) 76 = .ok (.bipush 7, 2) := by decide +kernel
theorem tz_55_76 : tw_E sc d 55 76 [x0, x1, x2, x3] st g mi mr Q = tw_E sc d 55 78 [x0, x1, x2, x3] (.int 7 :: st) g mi mr Q := tw_x_bipush td_55_76 (by decide)
theorem td_55_78 : decode (tw_cd 55) 78 = .ok (.if_icmp .ne 16, 3) := by decide +kernel
theorem tz_55_78 : tw_E sc d 55 78 [x0, x1, x2, x3] (.int w :: .int v :: st) g mi mr Q = if ¬ v = w then tw_E sc d 55 94 [x0, x1, x2, x3] st g mi mr Q else tw_E sc d 55 81 [x0, x1, x2, x3] st g mi mr Q := tw_x_ic_ne td_55_78 (by decide)
theorem td_55_81 : decode (tw_cd 55) 81 = .ok (.iload_n 1, 1) := by decide +kernel
theorem tz_55_81 : tw_E sc d 55 81 [x0, some (.int v), x2, x3] st g mi mr Q = tw_E sc d 55 82 [x0, some (.int v), x2, x3] (.int v :: st) g mi mr Q := tw_x_iload_n td_55_81 rfl
theorem td_55_82 : decode (tw_cd 55) 82 = .ok (.aload_n 0, 1) := by decide +kernel
theorem tz_55_82 : tw_E sc d 55 82 [some (.ref a), x1, x2, x3] st g mi mr Q = tw_E sc d 55 83 [some (.ref a), x1, x2, x3] (.ref a :: st) g mi mr Q := tw_x_aload_n td_55_82 rfl
theorem td_55_83 : decode (tw_cd 55) 83 = .ok (.getfield 34, 3) := by decide +kernel
theorem tz_55_83 : tw_E sc d 55 83 [x0, x1, x2, x3] (.ref a :: st) g mi mr Q = (tw_kd g a = 2 ∧ tw_E sc d 55 86 [x0, x1, x2, x3] (.int (mi a 7) :: st) g mi mr Q) := tw_x_geti td_55_83 to_55 tf_2_34 (trf_2_7)
theorem td_55_86 : decode (tw_cd 55) 86 = .ok (.isub, 1) := by decide +kernel
theorem tz_55_86 : tw_E sc d 55 86 [x0, x1, x2, x3] (.int w :: .int v :: st) g mi mr Q = tw_E sc d 55 87 [x0, x1, x2, x3] (.int (v - w) :: st) g mi mr Q := tw_x_isub td_55_86
theorem td_55_87 : decode (tw_cd 55) 87 = .ok (.aload_n 0, 1) := by decide +kernel
theorem tz_55_87 : tw_E sc d 55 87 [some (.ref a), x1, x2, x3] st g mi mr Q = tw_E sc d 55 88 [some (.ref a), x1, x2, x3] (.ref a :: st) g mi mr Q := tw_x_aload_n td_55_87 rfl
theorem td_55_88 : decode (tw_cd 55) 88 = .ok (.getfield 21, 3) := by decide +kernel
theorem tz_55_88 : tw_E sc d 55 88 [x0, x1, x2, x3] (.ref a :: st) g mi mr Q = (tw_kd g a = 2 ∧ tw_E sc d 55 91 [x0, x1, x2, x3] (.int (mi a 3) :: st) g mi mr Q) := tw_x_geti td_55_88 to_55 tf_2_21 (trf_2_3)
theorem td_55_91 : decode (tw_cd 55) 91 = .ok (.if_icmp .lt 14, 3) := by decide +kernel
theorem tz_55_91 : tw_E sc d 55 91 [x0, x1, x2, x3] (.int w :: .int v :: st) g mi mr Q = if v < w then tw_E sc d 55 105 [x0, x1, x2, x3] st g mi mr Q else tw_E sc d 55 94 [x0, x1, x2, x3] st g mi mr Q := tw_x_ic_lt td_55_91 (by decide)
theorem td_55_94 : decode (tw_cd 55) 94 = .ok (.aload_n 0, 1) := by decide +kernel
theorem tz_55_94 : tw_E sc d 55 94 [some (.ref a), x1, x2, x3] st g mi mr Q = tw_E sc d 55 95 [some (.ref a), x1, x2, x3] (.ref a :: st) g mi mr Q := tw_x_aload_n td_55_94 rfl
theorem td_55_95 : decode (tw_cd 55) 95 = .ok (.iconst 1, 1) := by decide +kernel
theorem tz_55_95 : tw_E sc d 55 95 [x0, x1, x2, x3] st g mi mr Q = tw_E sc d 55 96 [x0, x1, x2, x3] (.int 1 :: st) g mi mr Q := tw_x_iconst td_55_95 (by decide)
theorem td_55_96 : decode (tw_cd 55) 96 = .ok (.putfield 27, 3) := by decide +kernel
theorem tz_55_96 : tw_E sc d 55 96 [x0, x1, x2, x3] (.int v :: .ref a :: st) g mi mr Q = ((tw_kd g a = 2 ∧ (v = 0 ∨ v = 1)) ∧ tw_E sc d 55 99 [x0, x1, x2, x3] st g (tw_st mi a (tw_st (mi a) 5 v)) mr Q) := tw_x_putz td_55_96 to_55 tf_2_27 rfl rfl
theorem td_55_99 : decode (tw_cd 55) 99 = .ok (.aload_n 0, 1) := by decide +kernel
theorem tz_55_99 : tw_E sc d 55 99 [some (.ref a), x1, x2, x3] st g mi mr Q = tw_E sc d 55 100 [some (.ref a), x1, x2, x3] (.ref a :: st) g mi mr Q := tw_x_aload_n td_55_99 rfl
theorem td_55_100 : decode (tw_cd 55) 100 = .ok (.bipush (-9), 2) := by decide +kernel
theorem tz_55_100 : tw_E sc d 55 100 [x0, x1, x2, x3] st g mi mr Q = tw_E sc d 55 102 [x0, x1, x2, x3] (.int (-9) :: st) g mi mr Q := tw_x_bipush td_55_100 (by decide)
theorem td_55_102 : decode (tw_cd 55) 102 = .ok (.putfield 34, 3) := by decide +kernel
theorem tz_55_102 : tw_E sc d 55 102 [x0, x1, x2, x3] (.int v :: .ref a :: st) g mi mr Q = (tw_kd g a = 2 ∧ tw_E sc d 55 105 [x0, x1, x2, x3] st g (tw_st mi a (tw_st (mi a) 7 v)) mr Q) := tw_x_puti td_55_102 to_55 tf_2_34 rfl rfl
theorem td_55_105 : decode (tw_cd 55) 105 = .ok (.return_, 1) := by decide +kernel
theorem tz_55_105 : tw_E sc d 55 105 [x0, x1, x2, x3] [] g mi mr Q = Q none g mi mr := tw_x_vret td_55_105 tr_55
end tz_55
-- 56: No_isArmed
section tz_56
variable {sc : Nat × (Nat → Int32)} {d : Nat} {x0 : Option Value} {st : List Value} {g : tw_G} {mi : tw_I} {mr : tw_Q} {Q : Option Value → tw_G → tw_I → tw_Q → Prop} {v w u : Int32} {a b : Nat} {j h : Int64} {s1 s2 s3 s4 : Value}
theorem td_56_0 : decode (tw_cd 56) 0 = .ok (.aload_n 0, 1) := by decide +kernel
theorem tz_56_0 : tw_E sc d 56 0 [some (.ref a)] st g mi mr Q = tw_E sc d 56 1 [some (.ref a)] (.ref a :: st) g mi mr Q := tw_x_aload_n td_56_0 rfl
theorem td_56_1 : decode (tw_cd 56) 1 = .ok (.getfield 9, 3) := by decide +kernel
theorem tz_56_1 : tw_E sc d 56 1 [x0] (.ref a :: st) g mi mr Q = (tw_kd g a = 2 ∧ tw_E sc d 56 4 [x0] (.int (mi a 0) :: st) g mi mr Q) := tw_x_geti td_56_1 to_56 tf_2_9 (trf_2_0)
theorem td_56_4 : decode (tw_cd 56) 4 = .ok (.bipush 6, 2) := by decide +kernel
theorem tz_56_4 : tw_E sc d 56 4 [x0] st g mi mr Q = tw_E sc d 56 6 [x0] (.int 6 :: st) g mi mr Q := tw_x_bipush td_56_4 (by decide)
theorem td_56_6 : decode (tw_cd 56) 6 = .ok (.if_icmp .eq 12, 3) := by decide +kernel
theorem tz_56_6 : tw_E sc d 56 6 [x0] (.int w :: .int v :: st) g mi mr Q = if v = w then tw_E sc d 56 18 [x0] st g mi mr Q else tw_E sc d 56 9 [x0] st g mi mr Q := tw_x_ic_eq td_56_6 (by decide)
theorem td_56_9 : decode (tw_cd 56) 9 = .ok (.aload_n 0, 1) := by decide +kernel
theorem tz_56_9 : tw_E sc d 56 9 [some (.ref a)] st g mi mr Q = tw_E sc d 56 10 [some (.ref a)] (.ref a :: st) g mi mr Q := tw_x_aload_n td_56_9 rfl
theorem td_56_10 : decode (tw_cd 56) 10 = .ok (.getfield 9, 3) := by decide +kernel
theorem tz_56_10 : tw_E sc d 56 10 [x0] (.ref a :: st) g mi mr Q = (tw_kd g a = 2 ∧ tw_E sc d 56 13 [x0] (.int (mi a 0) :: st) g mi mr Q) := tw_x_geti td_56_10 to_56 tf_2_9 (trf_2_0)
theorem td_56_13 : decode (tw_cd 56) 13 = .ok (.bipush 7, 2) := by decide +kernel
theorem tz_56_13 : tw_E sc d 56 13 [x0] st g mi mr Q = tw_E sc d 56 15 [x0] (.int 7 :: st) g mi mr Q := tw_x_bipush td_56_13 (by decide)
theorem td_56_15 : decode (tw_cd 56) 15 = .ok (.if_icmp .ne 7, 3) := by decide +kernel
theorem tz_56_15 : tw_E sc d 56 15 [x0] (.int w :: .int v :: st) g mi mr Q = if ¬ v = w then tw_E sc d 56 22 [x0] st g mi mr Q else tw_E sc d 56 18 [x0] st g mi mr Q := tw_x_ic_ne td_56_15 (by decide)
theorem td_56_18 : decode (tw_cd 56) 18 = .ok (.iconst 1, 1) := by decide +kernel
theorem tz_56_18 : tw_E sc d 56 18 [x0] st g mi mr Q = tw_E sc d 56 19 [x0] (.int 1 :: st) g mi mr Q := tw_x_iconst td_56_18 (by decide)
theorem td_56_19 : decode (tw_cd 56) 19 = .ok (.goto 4, 3) := by decide +kernel
theorem tz_56_19 : tw_E sc d 56 19 [x0] st g mi mr Q = tw_E sc d 56 23 [x0] st g mi mr Q := tw_x_goto td_56_19 (by decide)
theorem td_56_22 : decode (tw_cd 56) 22 = .ok (.iconst 0, 1) := by decide +kernel
theorem tz_56_22 : tw_E sc d 56 22 [x0] st g mi mr Q = tw_E sc d 56 23 [x0] (.int 0 :: st) g mi mr Q := tw_x_iconst td_56_22 (by decide)
theorem td_56_23 : decode (tw_cd 56) 23 = .ok (.ireturn, 1) := by decide +kernel
theorem tz_56_23 : tw_E sc d 56 23 [x0] ([.int v]) g mi mr Q = ((v = 0 ∨ v = 1) ∧ Q (some (.int v)) g mi mr) := tw_x_zret td_56_23 tr_56
end tz_56
-- 57: No_isEdge
section tz_57
variable {sc : Nat × (Nat → Int32)} {d : Nat} {x0 x1 x2 : Option Value} {st : List Value} {g : tw_G} {mi : tw_I} {mr : tw_Q} {Q : Option Value → tw_G → tw_I → tw_Q → Prop} {v w u : Int32} {a b : Nat} {j h : Int64} {s1 s2 s3 s4 : Value}
theorem td_57_0 : decode (tw_cd 57) 0 = .ok (.aload_n 0, 1) := by decide +kernel
theorem tz_57_0 : tw_E sc d 57 0 [some (.ref a), x1, x2] st g mi mr Q = tw_E sc d 57 1 [some (.ref a), x1, x2] (.ref a :: st) g mi mr Q := tw_x_aload_n td_57_0 rfl
theorem td_57_1 : decode (tw_cd 57) 1 = .ok (.getfield 18, 3) := by decide +kernel
theorem tz_57_1 : tw_E sc d 57 1 [x0, x1, x2] (.ref a :: st) g mi mr Q = (tw_kd g a = 2 ∧ tw_E sc d 57 4 [x0, x1, x2] (.int (mi a 2) :: st) g mi mr Q) := tw_x_geti td_57_1 to_57 tf_2_18 (trf_2_2)
theorem td_57_4 : decode (tw_cd 57) 4 = .ok (.lookupswitch 56 #[(0, 28), (1, 42)], 28) := by decide +kernel
theorem tz_57_4 : tw_E sc d 57 4 [x0, x1, x2] (.int v :: st) g mi mr Q = if v = 0 then tw_E sc d 57 32 [x0, x1, x2] st g mi mr Q else if v = 1 then tw_E sc d 57 46 [x0, x1, x2] st g mi mr Q else tw_E sc d 57 60 [x0, x1, x2] st g mi mr Q := tw_x_l2 td_57_4 (by decide) (by decide) (by decide) (by decide) (by decide) rfl
theorem td_57_32 : decode (tw_cd 57) 32 = .ok (.iload_n 2, 1) := by decide +kernel
theorem tz_57_32 : tw_E sc d 57 32 [x0, x1, some (.int v)] st g mi mr Q = tw_E sc d 57 33 [x0, x1, some (.int v)] (.int v :: st) g mi mr Q := tw_x_iload_n td_57_32 rfl
theorem td_57_33 : decode (tw_cd 57) 33 = .ok (.ifCond .eq 11, 3) := by decide +kernel
theorem tz_57_33 : tw_E sc d 57 33 [x0, x1, x2] (.int v :: st) g mi mr Q = if v = 0 then tw_E sc d 57 44 [x0, x1, x2] st g mi mr Q else tw_E sc d 57 36 [x0, x1, x2] st g mi mr Q := tw_x_if_eq td_57_33 (by decide)
theorem td_57_36 : decode (tw_cd 57) 36 = .ok (.iload_n 1, 1) := by decide +kernel
theorem tz_57_36 : tw_E sc d 57 36 [x0, some (.int v), x2] st g mi mr Q = tw_E sc d 57 37 [x0, some (.int v), x2] (.int v :: st) g mi mr Q := tw_x_iload_n td_57_36 rfl
theorem td_57_37 : decode (tw_cd 57) 37 = .ok (.ifCond .ne 7, 3) := by decide +kernel
theorem tz_57_37 : tw_E sc d 57 37 [x0, x1, x2] (.int v :: st) g mi mr Q = if ¬ v = 0 then tw_E sc d 57 44 [x0, x1, x2] st g mi mr Q else tw_E sc d 57 40 [x0, x1, x2] st g mi mr Q := tw_x_if_ne td_57_37 (by decide)
theorem td_57_40 : decode (tw_cd 57) 40 = .ok (.iconst 1, 1) := by decide +kernel
theorem tz_57_40 : tw_E sc d 57 40 [x0, x1, x2] st g mi mr Q = tw_E sc d 57 41 [x0, x1, x2] (.int 1 :: st) g mi mr Q := tw_x_iconst td_57_40 (by decide)
theorem td_57_41 : decode (tw_cd 57) 41 = .ok (.goto 4, 3) := by decide +kernel
theorem tz_57_41 : tw_E sc d 57 41 [x0, x1, x2] st g mi mr Q = tw_E sc d 57 45 [x0, x1, x2] st g mi mr Q := tw_x_goto td_57_41 (by decide)
theorem td_57_44 : decode (tw_cd 57) 44 = .ok (.iconst 0, 1) := by decide +kernel
theorem tz_57_44 : tw_E sc d 57 44 [x0, x1, x2] st g mi mr Q = tw_E sc d 57 45 [x0, x1, x2] (.int 0 :: st) g mi mr Q := tw_x_iconst td_57_44 (by decide)
theorem td_57_45 : decode (tw_cd 57) 45 = .ok (.ireturn, 1) := by decide +kernel
theorem tz_57_45 : tw_E sc d 57 45 [x0, x1, x2] ([.int v]) g mi mr Q = ((v = 0 ∨ v = 1) ∧ Q (some (.int v)) g mi mr) := tw_x_zret td_57_45 tr_57
theorem td_57_46 : decode (tw_cd 57) 46 = .ok (.iload_n 1, 1) := by decide +kernel
theorem tz_57_46 : tw_E sc d 57 46 [x0, some (.int v), x2] st g mi mr Q = tw_E sc d 57 47 [x0, some (.int v), x2] (.int v :: st) g mi mr Q := tw_x_iload_n td_57_46 rfl
theorem td_57_47 : decode (tw_cd 57) 47 = .ok (.ifCond .eq 11, 3) := by decide +kernel
theorem tz_57_47 : tw_E sc d 57 47 [x0, x1, x2] (.int v :: st) g mi mr Q = if v = 0 then tw_E sc d 57 58 [x0, x1, x2] st g mi mr Q else tw_E sc d 57 50 [x0, x1, x2] st g mi mr Q := tw_x_if_eq td_57_47 (by decide)
theorem td_57_50 : decode (tw_cd 57) 50 = .ok (.iload_n 2, 1) := by decide +kernel
theorem tz_57_50 : tw_E sc d 57 50 [x0, x1, some (.int v)] st g mi mr Q = tw_E sc d 57 51 [x0, x1, some (.int v)] (.int v :: st) g mi mr Q := tw_x_iload_n td_57_50 rfl
theorem td_57_51 : decode (tw_cd 57) 51 = .ok (.ifCond .ne 7, 3) := by decide +kernel
theorem tz_57_51 : tw_E sc d 57 51 [x0, x1, x2] (.int v :: st) g mi mr Q = if ¬ v = 0 then tw_E sc d 57 58 [x0, x1, x2] st g mi mr Q else tw_E sc d 57 54 [x0, x1, x2] st g mi mr Q := tw_x_if_ne td_57_51 (by decide)
theorem td_57_54 : decode (tw_cd 57) 54 = .ok (.iconst 1, 1) := by decide +kernel
theorem tz_57_54 : tw_E sc d 57 54 [x0, x1, x2] st g mi mr Q = tw_E sc d 57 55 [x0, x1, x2] (.int 1 :: st) g mi mr Q := tw_x_iconst td_57_54 (by decide)
theorem td_57_55 : decode (tw_cd 57) 55 = .ok (.goto 4, 3) := by decide +kernel
theorem tz_57_55 : tw_E sc d 57 55 [x0, x1, x2] st g mi mr Q = tw_E sc d 57 59 [x0, x1, x2] st g mi mr Q := tw_x_goto td_57_55 (by decide)
theorem td_57_58 : decode (tw_cd 57) 58 = .ok (.iconst 0, 1) := by decide +kernel
theorem tz_57_58 : tw_E sc d 57 58 [x0, x1, x2] st g mi mr Q = tw_E sc d 57 59 [x0, x1, x2] (.int 0 :: st) g mi mr Q := tw_x_iconst td_57_58 (by decide)
theorem td_57_59 : decode (tw_cd 57) 59 = .ok (.ireturn, 1) := by decide +kernel
theorem tz_57_59 : tw_E sc d 57 59 [x0, x1, x2] ([.int v]) g mi mr Q = ((v = 0 ∨ v = 1) ∧ Q (some (.int v)) g mi mr) := tw_x_zret td_57_59 tr_57
theorem td_57_60 : decode (tw_cd 57) 60 = .ok (.iload_n 1, 1) := by decide +kernel
theorem tz_57_60 : tw_E sc d 57 60 [x0, some (.int v), x2] st g mi mr Q = tw_E sc d 57 61 [x0, some (.int v), x2] (.int v :: st) g mi mr Q := tw_x_iload_n td_57_60 rfl
theorem td_57_61 : decode (tw_cd 57) 61 = .ok (.iload_n 2, 1) := by decide +kernel
theorem tz_57_61 : tw_E sc d 57 61 [x0, x1, some (.int v)] st g mi mr Q = tw_E sc d 57 62 [x0, x1, some (.int v)] (.int v :: st) g mi mr Q := tw_x_iload_n td_57_61 rfl
theorem td_57_62 : decode (tw_cd 57) 62 = .ok (.if_icmp .eq 7, 3) := by decide +kernel
theorem tz_57_62 : tw_E sc d 57 62 [x0, x1, x2] (.int w :: .int v :: st) g mi mr Q = if v = w then tw_E sc d 57 69 [x0, x1, x2] st g mi mr Q else tw_E sc d 57 65 [x0, x1, x2] st g mi mr Q := tw_x_ic_eq td_57_62 (by decide)
theorem td_57_65 : decode (tw_cd 57) 65 = .ok (.iconst 1, 1) := by decide +kernel
theorem tz_57_65 : tw_E sc d 57 65 [x0, x1, x2] st g mi mr Q = tw_E sc d 57 66 [x0, x1, x2] (.int 1 :: st) g mi mr Q := tw_x_iconst td_57_65 (by decide)
theorem td_57_66 : decode (tw_cd 57) 66 = .ok (.goto 4, 3) := by decide +kernel
theorem tz_57_66 : tw_E sc d 57 66 [x0, x1, x2] st g mi mr Q = tw_E sc d 57 70 [x0, x1, x2] st g mi mr Q := tw_x_goto td_57_66 (by decide)
theorem td_57_69 : decode (tw_cd 57) 69 = .ok (.iconst 0, 1) := by decide +kernel
theorem tz_57_69 : tw_E sc d 57 69 [x0, x1, x2] st g mi mr Q = tw_E sc d 57 70 [x0, x1, x2] (.int 0 :: st) g mi mr Q := tw_x_iconst td_57_69 (by decide)
theorem td_57_70 : decode (tw_cd 57) 70 = .ok (.ireturn, 1) := by decide +kernel
theorem tz_57_70 : tw_E sc d 57 70 [x0, x1, x2] ([.int v]) g mi mr Q = ((v = 0 ∨ v = 1) ∧ Q (some (.int v)) g mi mr) := tw_x_zret td_57_70 tr_57
end tz_57
-- 58: Ta_init
section tz_58
variable {sc : Nat × (Nat → Int32)} {d : Nat} {x0 : Option Value} {st : List Value} {g : tw_G} {mi : tw_I} {mr : tw_Q} {Q : Option Value → tw_G → tw_I → tw_Q → Prop} {v w u : Int32} {a b : Nat} {j h : Int64} {s1 s2 s3 s4 : Value}
theorem td_58_0 : decode (tw_cd 58) 0 = .ok (.aload_n 0, 1) := by decide +kernel
theorem tz_58_0 : tw_E sc d 58 0 [some (.ref a)] st g mi mr Q = tw_E sc d 58 1 [some (.ref a)] (.ref a :: st) g mi mr Q := tw_x_aload_n td_58_0 rfl
theorem td_58_1 : decode (tw_cd 58) 1 = .ok (.invokespecial 3, 3) := by decide +kernel
theorem tz_58_1 : tw_E sc (d + 1) 58 1 [x0] (.ref a :: []) g mi mr Q = tw_E sc (d + 1) 58 4 [x0] [] g mi mr Q := tw_x_obj td_58_1 to_58 toi_3 (by simp)
theorem td_58_4 : decode (tw_cd 58) 4 = .ok (.aload_n 0, 1) := by decide +kernel
theorem tz_58_4 : tw_E sc d 58 4 [some (.ref a)] st g mi mr Q = tw_E sc d 58 5 [some (.ref a)] (.ref a :: st) g mi mr Q := tw_x_aload_n td_58_4 rfl
theorem td_58_5 : decode (tw_cd 58) 5 = .ok (.bipush 60, 2) := by decide +kernel
theorem tz_58_5 : tw_E sc d 58 5 [x0] st g mi mr Q = tw_E sc d 58 7 [x0] (.int 60 :: st) g mi mr Q := tw_x_bipush td_58_5 (by decide)
theorem td_58_7 : decode (tw_cd 58) 7 = .ok (.newarray .int, 2) := by decide +kernel
theorem tz_58_7 : tw_E sc d 58 7 [x0] (.int 60 :: st) g mi mr Q = tw_E sc d 58 9 [x0] (.ref g.1 :: st) (tw_gn g 20 60 60) (tw_st mi g.1 (fun _ => 0)) (tw_st mr g.1 (fun _ => none)) Q := tw_x_newi td_58_7 (by decide)
theorem td_58_9 : decode (tw_cd 58) 9 = .ok (.putfield 9, 3) := by decide +kernel
theorem tz_58_9 : tw_E sc d 58 9 [x0] (.ref b :: .ref a :: st) g mi mr Q = (tw_kd g a = 3 ∧ tw_E sc d 58 12 [x0] st g mi (tw_st mr a (tw_st (mr a) 0 (some b))) Q) := tw_x_putr td_58_9 to_58 tf_3_9 (Or.inr ⟨rfl, rfl⟩) (trf_3_0)
theorem td_58_12 : decode (tw_cd 58) 12 = .ok (.return_, 1) := by decide +kernel
theorem tz_58_12 : tw_E sc d 58 12 [x0] [] g mi mr Q = Q none g mi mr := tw_x_vret td_58_12 tr_58
end tz_58
