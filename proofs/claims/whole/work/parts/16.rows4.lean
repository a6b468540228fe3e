/-! a row for each instruction: printed by wip/whole/gen3.py -/
-- 119: Fr_readFrame
section tz_119
variable {sc : Nat × (Nat → Int32)} {d : Nat} {x0 x1 x2 x3 x4 x5 : Option Value} {st : List Value} {g : tw_G} {mi : tw_I} {mr : tw_Q} {Q : Option Value → tw_G → tw_I → tw_Q → Prop} {v w u : Int32} {a b : Nat} {j h : Int64} {s1 s2 s3 s4 : Value}
theorem td_119_0 : decode (tw_cd 119) 0 = .ok (.iload_n 3, 1) := by decide +kernel
theorem tz_119_0 : tw_E sc d 119 0 [x0, x1, x2, some (.int v), x4, x5] st g mi mr Q = tw_E sc d 119 1 [x0, x1, x2, some (.int v), x4, x5] (.int v :: st) g mi mr Q := tw_x_iload_n td_119_0 rfl
theorem td_119_1 : decode (tw_cd 119) 1 = .ok (.iload_n 2, 1) := by decide +kernel
theorem tz_119_1 : tw_E sc d 119 1 [x0, x1, some (.int v), x3, x4, x5] st g mi mr Q = tw_E sc d 119 2 [x0, x1, some (.int v), x3, x4, x5] (.int v :: st) g mi mr Q := tw_x_iload_n td_119_1 rfl
theorem td_119_2 : decode (tw_cd 119) 2 = .ok (.iconst 2, 1) := by decide +kernel
theorem tz_119_2 : tw_E sc d 119 2 [x0, x1, x2, x3, x4, x5] st g mi mr Q = tw_E sc d 119 3 [x0, x1, x2, x3, x4, x5] (.int 2 :: st) g mi mr Q := tw_x_iconst td_119_2 (by decide)
theorem td_119_3 : decode (tw_cd 119) 3 = .ok (.idiv, 1) := by decide +kernel
theorem tz_119_3 : tw_E sc d 119 3 [x0, x1, x2, x3, x4, x5] (.int w :: .int v :: st) g mi mr Q = (¬ w = 0 ∧ tw_E sc d 119 4 [x0, x1, x2, x3, x4, x5] (.int (v / w) :: st) g mi mr Q) := tw_x_idiv td_119_3
theorem td_119_4 : decode (tw_cd 119) 4 = .ok (.iadd, 1) := by decide +kernel
theorem tz_119_4 : tw_E sc d 119 4 [x0, x1, x2, x3, x4, x5] (.int w :: .int v :: st) g mi mr Q = tw_E sc d 119 5 [x0, x1, x2, x3, x4, x5] (.int (v + w) :: st) g mi mr Q := tw_x_iadd td_119_4
theorem td_119_5 : decode (tw_cd 119) 5 = .ok (.istore 4, 2) := by decide +kernel
theorem tz_119_5 : tw_E sc d 119 5 [x0, x1, x2, x3, x4, x5] (.int v :: st) g mi mr Q = tw_E sc d 119 7 [x0, x1, x2, x3, some (.int v), x5] st g mi mr Q := tw_x_istore td_119_5 tp_119 rfl
theorem td_119_7 : decode (tw_cd 119) 7 = .ok (.aload_n 0, 1) := by decide +kernel
theorem tz_119_7 : tw_E sc d 119 7 [some (.ref a), x1, x2, x3, x4, x5] st g mi mr Q = tw_E sc d 119 8 [some (.ref a), x1, x2, x3, x4, x5] (.ref a :: st) g mi mr Q := tw_x_aload_n td_119_7 rfl
theorem td_119_8 : decode (tw_cd 119) 8 = .ok (.getfield 9, 3) := by decide +kernel
theorem tz_119_8 : tw_E sc d 119 8 [x0, x1, x2, x3, x4, x5] (.ref a :: st) g mi mr Q = (tw_kd g a = 8 ∧ tw_E sc d 119 11 [x0, x1, x2, x3, x4, x5] (va_rf (mr a 0) :: st) g mi mr Q) := tw_x_getr td_119_8 to_119 tf_8_9 (trf_8_0)
theorem td_119_11 : decode (tw_cd 119) 11 = .ok (.iload 4, 2) := by decide +kernel
theorem tz_119_11 : tw_E sc d 119 11 [x0, x1, x2, x3, some (.int v), x5] st g mi mr Q = tw_E sc d 119 13 [x0, x1, x2, x3, some (.int v), x5] (.int v :: st) g mi mr Q := tw_x_iload td_119_11 rfl
theorem td_119_13 : decode (tw_cd 119) 13 = .ok (.iload_n 1, 1) := by decide +kernel
theorem tz_119_13 : tw_E sc d 119 13 [x0, some (.int v), x2, x3, x4, x5] st g mi mr Q = tw_E sc d 119 14 [x0, some (.int v), x2, x3, x4, x5] (.int v :: st) g mi mr Q := tw_x_iload_n td_119_13 rfl
theorem td_119_14 : decode (tw_cd 119) 14 = .ok (.invokevirtual 42, 3) := by decide +kernel
theorem tz_119_14 {a0 : Int32} {a1 : Int32} : tw_E sc (d + 1) 119 14 [x0, x1, x2, x3, x4, x5] ([.int a1, .int a0, .ref a]) g mi mr Q = (tw_kd g a = 5 ∧ tw_E sc d 96 0 [some (.ref a), some (.int a0), some (.int a1)] [] g mi mr (tw_K sc (d + 1) 119 17 [x0, x1, x2, x3, x4, x5] [] Q)) := tw_x_cv (as := [.int a0, .int a1]) (r := []) td_119_14 to_119 tc_8_42 to_96 rfl rfl rfl rfl
theorem td_119_17 : decode (tw_cd 119) 17 = .ok (.iconst 1, 1) := by decide +kernel
theorem tz_119_17 : tw_E sc d 119 17 [x0, x1, x2, x3, x4, x5] st g mi mr Q = tw_E sc d 119 18 [x0, x1, x2, x3, x4, x5] (.int 1 :: st) g mi mr Q := tw_x_iconst td_119_17 (by decide)
theorem td_119_18 : decode (tw_cd 119) 18 = .ok (.if_icmp .ne 16, 3) := by decide +kernel
theorem tz_119_18 : tw_E sc d 119 18 [x0, x1, x2, x3, x4, x5] (.int w :: .int v :: st) g mi mr Q = if ¬ v = w then tw_E sc d 119 34 [x0, x1, x2, x3, x4, x5] st g mi mr Q else tw_E sc d 119 21 [x0, x1, x2, x3, x4, x5] st g mi mr Q := tw_x_ic_ne td_119_18 (by decide)
theorem td_119_21 : decode (tw_cd 119) 21 = .ok (.aload_n 0, 1) := by decide +kernel
theorem tz_119_21 : tw_E sc d 119 21 [some (.ref a), x1, x2, x3, x4, x5] st g mi mr Q = tw_E sc d 119 22 [some (.ref a), x1, x2, x3, x4, x5] (.ref a :: st) g mi mr Q := tw_x_aload_n td_119_21 rfl
theorem td_119_22 : decode (tw_cd 119) 22 = .ok (.getfield 15, 3) := by decide +kernel
theorem tz_119_22 : tw_E sc d 119 22 [x0, x1, x2, x3, x4, x5] (.ref a :: st) g mi mr Q = (tw_kd g a = 8 ∧ tw_E sc d 119 25 [x0, x1, x2, x3, x4, x5] (va_rf (mr a 1) :: st) g mi mr Q) := tw_x_getr td_119_22 to_119 tf_8_15 (trf_8_1)
theorem td_119_25 : decode (tw_cd 119) 25 = .ok (.iconst 3, 1) := by decide +kernel
theorem tz_119_25 : tw_E sc d 119 25 [x0, x1, x2, x3, x4, x5] st g mi mr Q = tw_E sc d 119 26 [x0, x1, x2, x3, x4, x5] (.int 3 :: st) g mi mr Q := tw_x_iconst td_119_25 (by decide)
theorem td_119_26 : decode (tw_cd 119) 26 = .ok (.iload 4, 2) := by decide +kernel
theorem tz_119_26 : tw_E sc d 119 26 [x0, x1, x2, x3, some (.int v), x5] st g mi mr Q = tw_E sc d 119 28 [x0, x1, x2, x3, some (.int v), x5] (.int v :: st) g mi mr Q := tw_x_iload td_119_26 rfl
theorem td_119_28 : decode (tw_cd 119) 28 = .ok (.invokevirtual 45, 3) := by decide +kernel
theorem tz_119_28 {a0 : Int32} {a1 : Int32} : tw_E sc (d + 1) 119 28 [x0, x1, x2, x3, x4, x5] ([.int a1, .int a0, .ref a]) g mi mr Q = (tw_kd g a = 7 ∧ tw_E sc d 113 0 [some (.ref a), some (.int a0), some (.int a1)] [] g mi mr (tw_K sc (d + 1) 119 31 [x0, x1, x2, x3, x4, x5] [] Q)) := tw_x_cv (as := [.int a0, .int a1]) (r := []) td_119_28 to_119 tc_8_45 to_113 rfl rfl rfl rfl
theorem td_119_31 : decode (tw_cd 119) 31 = .ok (.iload 4, 2) := by decide +kernel
theorem tz_119_31 : tw_E sc d 119 31 [x0, x1, x2, x3, some (.int v), x5] st g mi mr Q = tw_E sc d 119 33 [x0, x1, x2, x3, some (.int v), x5] (.int v :: st) g mi mr Q := tw_x_iload td_119_31 rfl
theorem td_119_33 : decode (tw_cd 119) 33 = .ok (.ireturn, 1) := by decide +kernel
theorem tz_119_33 : tw_E sc d 119 33 [x0, x1, x2, x3, x4, x5] ([.int v]) g mi mr Q = Q (some (.int v)) g mi mr := tw_x_iret td_119_33 tr_119
theorem td_119_34 : decode (tw_cd 119) 34 = .ok (.iload 4, 2) := by decide +kernel
theorem tz_119_34 : tw_E sc d 119 34 [x0, x1, x2, x3, some (.int v), x5] st g mi mr Q = tw_E sc d 119 36 [x0, x1, x2, x3, some (.int v), x5] (.int v :: st) g mi mr Q := tw_x_iload td_119_34 rfl
theorem td_119_36 : decode (tw_cd 119) 36 = .ok (.bipush 9, 2) := by decide +kernel
theorem tz_119_36 : tw_E sc d 119 36 [x0, x1, x2, x3, x4, x5] st g mi mr Q = tw_E sc d 119 38 [x0, x1, x2, x3, x4, x5] (.int 9 :: st) g mi mr Q := tw_x_bipush td_119_36 (by decide)
theorem td_119_38 : decode (tw_cd 119) 38 = .ok (.iload_n 2, 1) := by decide +kernel
theorem tz_119_38 : tw_E sc d 119 38 [x0, x1, some (.int v), x3, x4, x5] st g mi mr Q = tw_E sc d 119 39 [x0, x1, some (.int v), x3, x4, x5] (.int v :: st) g mi mr Q := tw_x_iload_n td_119_38 rfl
theorem td_119_39 : decode (tw_cd 119) 39 = .ok (.imul, 1) := by decide +kernel
theorem tz_119_39 : tw_E sc d 119 39 [x0, x1, x2, x3, x4, x5] (.int w :: .int v :: st) g mi mr Q = tw_E sc d 119 40 [x0, x1, x2, x3, x4, x5] (.int (v * w) :: st) g mi mr Q := tw_x_imul td_119_39
theorem td_119_40 : decode (tw_cd 119) 40 = .ok (.iadd, 1) := by decide +kernel
theorem tz_119_40 : tw_E sc d 119 40 [x0, x1, x2, x3, x4, x5] (.int w :: .int v :: st) g mi mr Q = tw_E sc d 119 41 [x0, x1, x2, x3, x4, x5] (.int (v + w) :: st) g mi mr Q := tw_x_iadd td_119_40
theorem td_119_41 : decode (tw_cd 119) 41 = .ok (.istore 5, 2) := by decide +kernel
theorem tz_119_41 : tw_E sc d 119 41 [x0, x1, x2, x3, x4, x5] (.int v :: st) g mi mr Q = tw_E sc d 119 43 [x0, x1, x2, x3, x4, some (.int v)] st g mi mr Q := tw_x_istore td_119_41 tp_119 rfl
theorem td_119_43 : decode (tw_cd 119) 43 = .ok (.aload_n 0, 1) := by decide +kernel
theorem tz_119_43 : tw_E sc d 119 43 [some (.ref a), x1, x2, x3, x4, x5] st g mi mr Q = tw_E sc d 119 44 [some (.ref a), x1, x2, x3, x4, x5] (.ref a :: st) g mi mr Q := tw_x_aload_n td_119_43 rfl
theorem td_119_44 : decode (tw_cd 119) 44 = .ok (.getfield 9, 3) := by decide +kernel
theorem tz_119_44 : tw_E sc d 119 44 [x0, x1, x2, x3, x4, x5] (.ref a :: st) g mi mr Q = (tw_kd g a = 8 ∧ tw_E sc d 119 47 [x0, x1, x2, x3, x4, x5] (va_rf (mr a 0) :: st) g mi mr Q) := tw_x_getr td_119_44 to_119 tf_8_9 (trf_8_0)
theorem td_119_47 : decode (tw_cd 119) 47 = .ok (.iload 5, 2) := by decide +kernel
theorem tz_119_47 : tw_E sc d 119 47 [x0, x1, x2, x3, x4, some (.int v)] st g mi mr Q = tw_E sc d 119 49 [x0, x1, x2, x3, x4, some (.int v)] (.int v :: st) g mi mr Q := tw_x_iload td_119_47 rfl
theorem td_119_49 : decode (tw_cd 119) 49 = .ok (.invokevirtual 49, 3) := by decide +kernel
theorem tz_119_49 {a0 : Int32} : tw_E sc (d + 1) 119 49 [x0, x1, x2, x3, x4, x5] ([.int a0, .ref a]) g mi mr Q = (tw_kd g a = 5 ∧ tw_E sc d 94 0 [some (.ref a), some (.int a0)] [] g mi mr (tw_K sc (d + 1) 119 52 [x0, x1, x2, x3, x4, x5] [] Q)) := tw_x_cv (as := [.int a0]) (r := []) td_119_49 to_119 tc_8_49 to_94 rfl rfl rfl rfl
theorem td_119_52 : decode (tw_cd 119) 52 = .ok (.ifCond .ne 6, 3) := by decide +kernel
theorem tz_119_52 : tw_E sc d 119 52 [x0, x1, x2, x3, x4, x5] (.int v :: st) g mi mr Q = if ¬ v = 0 then tw_E sc d 119 58 [x0, x1, x2, x3, x4, x5] st g mi mr Q else tw_E sc d 119 55 [x0, x1, x2, x3, x4, x5] st g mi mr Q := tw_x_if_ne td_119_52 (by decide)
theorem td_119_55 : decode (tw_cd 119) 55 = .ok (.bipush (-9), 2) := by decide +kernel
theorem tz_119_55 : tw_E sc d 119 55 [x0, x1, x2, x3, x4, x5] st g mi mr Q = tw_E sc d 119 57 [x0, x1, x2, x3, x4, x5] (.int (-9) :: st) g mi mr Q := tw_x_bipush td_119_55 (by decide)
theorem td_119_57 : decode (tw_cd 119) 57 = .ok (.ireturn, 1) := by decide +kernel
theorem tz_119_57 : tw_E sc d 119 57 [x0, x1, x2, x3, x4, x5] ([.int v]) g mi mr Q = Q (some (.int v)) g mi mr := tw_x_iret td_119_57 tr_119
theorem td_119_58 : decode (tw_cd 119) 58 = .ok (.aload_n 0, 1) := by decide +kernel
theorem tz_119_58 : tw_E sc d 119 58 [some (.ref a), x1, x2, x3, x4, x5] st g mi mr Q = tw_E sc d 119 59 [some (.ref a), x1, x2, x3, x4, x5] (.ref a :: st) g mi mr Q := tw_x_aload_n td_119_58 rfl
theorem td_119_59 : decode (tw_cd 119) 59 = .ok (.getfield 9, 3) := by decide +kernel
theorem tz_119_59 : tw_E sc d 119 59 [x0, x1, x2, x3, x4, x5] (.ref a :: st) g mi mr Q = (tw_kd g a = 8 ∧ tw_E sc d 119 62 [x0, x1, x2, x3, x4, x5] (va_rf (mr a 0) :: st) g mi mr Q) := tw_x_getr td_119_59 to_119 tf_8_9 (trf_8_0)
theorem td_119_62 : decode (tw_cd 119) 62 = .ok (.iload 5, 2) := by decide +kernel
theorem tz_119_62 : tw_E sc d 119 62 [x0, x1, x2, x3, x4, some (.int v)] st g mi mr Q = tw_E sc d 119 64 [x0, x1, x2, x3, x4, some (.int v)] (.int v :: st) g mi mr Q := tw_x_iload td_119_62 rfl
theorem td_119_64 : decode (tw_cd 119) 64 = .ok (.iload_n 1, 1) := by decide +kernel
theorem tz_119_64 : tw_E sc d 119 64 [x0, some (.int v), x2, x3, x4, x5] st g mi mr Q = tw_E sc d 119 65 [x0, some (.int v), x2, x3, x4, x5] (.int v :: st) g mi mr Q := tw_x_iload_n td_119_64 rfl
theorem td_119_65 : decode (tw_cd 119) 65 = .ok (.invokevirtual 42, 3) := by decide +kernel
theorem tz_119_65 {a0 : Int32} {a1 : Int32} : tw_E sc (d + 1) 119 65 [x0, x1, x2, x3, x4, x5] ([.int a1, .int a0, .ref a]) g mi mr Q = (tw_kd g a = 5 ∧ tw_E sc d 96 0 [some (.ref a), some (.int a0), some (.int a1)] [] g mi mr (tw_K sc (d + 1) 119 68 [x0, x1, x2, x3, x4, x5] [] Q)) := tw_x_cv (as := [.int a0, .int a1]) (r := []) td_119_65 to_119 tc_8_42 to_96 rfl rfl rfl rfl
theorem td_119_68 : decode (tw_cd 119) 68 = .ok (.iconst 1, 1) := by decide +kernel
theorem tz_119_68 : tw_E sc d 119 68 [x0, x1, x2, x3, x4, x5] st g mi mr Q = tw_E sc d 119 69 [x0, x1, x2, x3, x4, x5] (.int 1 :: st) g mi mr Q := tw_x_iconst td_119_68 (by decide)
theorem td_119_69 : decode (tw_cd 119) 69 = .ok (.if_icmp .ne 22, 3) := by decide +kernel
theorem tz_119_69 : tw_E sc d 119 69 [x0, x1, x2, x3, x4, x5] (.int w :: .int v :: st) g mi mr Q = if ¬ v = w then tw_E sc d 119 91 [x0, x1, x2, x3, x4, x5] st g mi mr Q else tw_E sc d 119 72 [x0, x1, x2, x3, x4, x5] st g mi mr Q := tw_x_ic_ne td_119_69 (by decide)
theorem td_119_72 : decode (tw_cd 119) 72 = .ok (.aload_n 0, 1) := by decide +kernel
theorem tz_119_72 : tw_E sc d 119 72 [some (.ref a), x1, x2, x3, x4, x5] st g mi mr Q = tw_E sc d 119 73 [some (.ref a), x1, x2, x3, x4, x5] (.ref a :: st) g mi mr Q := tw_x_aload_n td_119_72 rfl
theorem td_119_73 : decode (tw_cd 119) 73 = .ok (.getfield 15, 3) := by decide +kernel
theorem tz_119_73 : tw_E sc d 119 73 [x0, x1, x2, x3, x4, x5] (.ref a :: st) g mi mr Q = (tw_kd g a = 8 ∧ tw_E sc d 119 76 [x0, x1, x2, x3, x4, x5] (va_rf (mr a 1) :: st) g mi mr Q) := tw_x_getr td_119_73 to_119 tf_8_15 (trf_8_1)
theorem td_119_76 : decode (tw_cd 119) 76 = .ok (.aload_n 0, 1) := by decide +kernel
theorem tz_119_76 : tw_E sc d 119 76 [some (.ref a), x1, x2, x3, x4, x5] st g mi mr Q = tw_E sc d 119 77 [some (.ref a), x1, x2, x3, x4, x5] (.ref a :: st) g mi mr Q := tw_x_aload_n td_119_76 rfl
theorem td_119_77 : decode (tw_cd 119) 77 = .ok (.iload_n 1, 1) := by decide +kernel
theorem tz_119_77 : tw_E sc d 119 77 [x0, some (.int v), x2, x3, x4, x5] st g mi mr Q = tw_E sc d 119 78 [x0, some (.int v), x2, x3, x4, x5] (.int v :: st) g mi mr Q := tw_x_iload_n td_119_77 rfl
theorem td_119_78 : decode (tw_cd 119) 78 = .ok (.iload_n 2, 1) := by decide +kernel
theorem tz_119_78 : tw_E sc d 119 78 [x0, x1, some (.int v), x3, x4, x5] st g mi mr Q = tw_E sc d 119 79 [x0, x1, some (.int v), x3, x4, x5] (.int v :: st) g mi mr Q := tw_x_iload_n td_119_78 rfl
theorem td_119_79 : decode (tw_cd 119) 79 = .ok (.iload 4, 2) := by decide +kernel
theorem tz_119_79 : tw_E sc d 119 79 [x0, x1, x2, x3, some (.int v), x5] st g mi mr Q = tw_E sc d 119 81 [x0, x1, x2, x3, some (.int v), x5] (.int v :: st) g mi mr Q := tw_x_iload td_119_79 rfl
theorem td_119_81 : decode (tw_cd 119) 81 = .ok (.invokevirtual 53, 3) := by decide +kernel
theorem tz_119_81 {a0 : Int32} {a1 : Int32} {a2 : Int32} : tw_E sc (d + 1) 119 81 [x0, x1, x2, x3, x4, x5] ([.int a2, .int a1, .int a0, .ref a, s1]) g mi mr Q = (tw_kd g a = 8 ∧ tw_E sc d 120 0 [some (.ref a), some (.int a0), some (.int a1), some (.int a2), none, none] [] g mi mr (tw_K sc (d + 1) 119 84 [x0, x1, x2, x3, x4, x5] [s1] Q)) := tw_x_cv (as := [.int a0, .int a1, .int a2]) (r := [s1]) td_119_81 to_119 tc_8_53 to_120 rfl rfl rfl rfl
theorem td_119_84 : decode (tw_cd 119) 84 = .ok (.iload_n 3, 1) := by decide +kernel
theorem tz_119_84 : tw_E sc d 119 84 [x0, x1, x2, some (.int v), x4, x5] st g mi mr Q = tw_E sc d 119 85 [x0, x1, x2, some (.int v), x4, x5] (.int v :: st) g mi mr Q := tw_x_iload_n td_119_84 rfl
theorem td_119_85 : decode (tw_cd 119) 85 = .ok (.invokevirtual 56, 3) := by decide +kernel
theorem tz_119_85 {a0 : Int32} {a1 : Int32} : tw_E sc (d + 1) 119 85 [x0, x1, x2, x3, x4, x5] ([.int a1, .int a0, .ref a]) g mi mr Q = (tw_kd g a = 7 ∧ tw_E sc d 112 0 [some (.ref a), some (.int a0), some (.int a1)] [] g mi mr (tw_K sc (d + 1) 119 88 [x0, x1, x2, x3, x4, x5] [] Q)) := tw_x_cv (as := [.int a0, .int a1]) (r := []) td_119_85 to_119 tc_8_56 to_112 rfl rfl rfl rfl
theorem td_119_88 : decode (tw_cd 119) 88 = .ok (.goto 13, 3) := by decide +kernel
theorem tz_119_88 : tw_E sc d 119 88 [x0, x1, x2, x3, x4, x5] st g mi mr Q = tw_E sc d 119 101 [x0, x1, x2, x3, x4, x5] st g mi mr Q := tw_x_goto td_119_88 (by decide)
theorem td_119_91 : decode (tw_cd 119) 91 = .ok (.aload_n 0, 1) := by decide +kernel
theorem tz_119_91 : tw_E sc d 119 91 [some (.ref a), x1, x2, x3, x4, x5] st g mi mr Q = tw_E sc d 119 92 [some (.ref a), x1, x2, x3, x4, x5] (.ref a :: st) g mi mr Q := tw_x_aload_n td_119_91 rfl
theorem td_119_92 : decode (tw_cd 119) 92 = .ok (.getfield 15, 3) := by decide +kernel
theorem tz_119_92 : tw_E sc d 119 92 [x0, x1, x2, x3, x4, x5] (.ref a :: st) g mi mr Q = (tw_kd g a = 8 ∧ tw_E sc d 119 95 [x0, x1, x2, x3, x4, x5] (va_rf (mr a 1) :: st) g mi mr Q) := tw_x_getr td_119_92 to_119 tf_8_15 (trf_8_1)
theorem td_119_95 : decode (tw_cd 119) 95 = .ok (.iconst 3, 1) := by decide +kernel
theorem tz_119_95 : tw_E sc d 119 95 [x0, x1, x2, x3, x4, x5] st g mi mr Q = tw_E sc d 119 96 [x0, x1, x2, x3, x4, x5] (.int 3 :: st) g mi mr Q := tw_x_iconst td_119_95 (by decide)
theorem td_119_96 : decode (tw_cd 119) 96 = .ok (.iload 5, 2) := by decide +kernel
theorem tz_119_96 : tw_E sc d 119 96 [x0, x1, x2, x3, x4, some (.int v)] st g mi mr Q = tw_E sc d 119 98 [x0, x1, x2, x3, x4, some (.int v)] (.int v :: st) g mi mr Q := tw_x_iload td_119_96 rfl
theorem td_119_98 : decode (tw_cd 119) 98 = .ok (.invokevirtual 45, 3) := by decide +kernel
theorem tz_119_98 {a0 : Int32} {a1 : Int32} : tw_E sc (d + 1) 119 98 [x0, x1, x2, x3, x4, x5] ([.int a1, .int a0, .ref a]) g mi mr Q = (tw_kd g a = 7 ∧ tw_E sc d 113 0 [some (.ref a), some (.int a0), some (.int a1)] [] g mi mr (tw_K sc (d + 1) 119 101 [x0, x1, x2, x3, x4, x5] [] Q)) := tw_x_cv (as := [.int a0, .int a1]) (r := []) td_119_98 to_119 tc_8_45 to_113 rfl rfl rfl rfl
theorem td_119_101 : decode (tw_cd 119) 101 = .ok (.iload 5, 2) := by decide +kernel
theorem tz_119_101 : tw_E sc d 119 101 [x0, x1, x2, x3, x4, some (.int v)] st g mi mr Q = tw_E sc d 119 103 [x0, x1, x2, x3, x4, some (.int v)] (.int v :: st) g mi mr Q := tw_x_iload td_119_101 rfl
theorem td_119_103 : decode (tw_cd 119) 103 = .ok (.ireturn, 1) := by decide +kernel
theorem tz_119_103 : tw_E sc d 119 103 [x0, x1, x2, x3, x4, x5] ([.int v]) g mi mr Q = Q (some (.int v)) g mi mr := tw_x_iret td_119_103 tr_119
end tz_119
-- 120: Fr_readValue
section tz_120
variable {sc : Nat × (Nat → Int32)} {d : Nat} {x0 x1 x2 x3 x4 x5 : Option Value} {st : List Value} {g : tw_G} {mi : tw_I} {mr : tw_Q} {Q : Option Value → tw_G → tw_I → tw_Q → Prop} {v w u : Int32} {a b : Nat} {j h : Int64} {s1 s2 s3 s4 : Value}
theorem td_120_0 : decode (tw_cd 120) 0 = .ok (.iconst 0, 1) := by decide +kernel
theorem tz_120_0 : tw_E sc d 120 0 [x0, x1, x2, x3, x4, x5] st g mi mr Q = tw_E sc d 120 1 [x0, x1, x2, x3, x4, x5] (.int 0 :: st) g mi mr Q := tw_x_iconst td_120_0 (by decide)
theorem td_120_1 : decode (tw_cd 120) 1 = .ok (.istore 4, 2) := by decide +kernel
theorem tz_120_1 : tw_E sc d 120 1 [x0, x1, x2, x3, x4, x5] (.int v :: st) g mi mr Q = tw_E sc d 120 3 [x0, x1, x2, x3, some (.int v), x5] st g mi mr Q := tw_x_istore td_120_1 tp_120 rfl
theorem td_120_3 : decode (tw_cd 120) 3 = .ok (.iconst 0, 1) := by decide +kernel
theorem tz_120_3 : tw_E sc d 120 3 [x0, x1, x2, x3, x4, x5] st g mi mr Q = tw_E sc d 120 4 [x0, x1, x2, x3, x4, x5] (.int 0 :: st) g mi mr Q := tw_x_iconst td_120_3 (by decide)
theorem td_120_4 : decode (tw_cd 120) 4 = .ok (.istore 5, 2) := by decide +kernel
theorem tz_120_4 : tw_E sc d 120 4 [x0, x1, x2, x3, x4, x5] (.int v :: st) g mi mr Q = tw_E sc d 120 6 [x0, x1, x2, x3, x4, some (.int v)] st g mi mr Q := tw_x_istore td_120_4 tp_120 rfl
theorem td_120_6 : decode (tw_cd 120) 6 = .ok (.iload 5, 2) := by decide +kernel
theorem tz_120_6 : tw_E sc d 120 6 [x0, x1, x2, x3, x4, some (.int v)] st g mi mr Q = tw_E sc d 120 8 [x0, x1, x2, x3, x4, some (.int v)] (.int v :: st) g mi mr Q := tw_x_iload td_120_6 rfl
theorem td_120_8 : decode (tw_cd 120) 8 = .ok (.bipush 8, 2) := by decide +kernel
theorem tz_120_8 : tw_E sc d 120 8 [x0, x1, x2, x3, x4, x5] st g mi mr Q = tw_E sc d 120 10 [x0, x1, x2, x3, x4, x5] (.int 8 :: st) g mi mr Q := tw_x_bipush td_120_8 (by decide)
theorem td_120_10 : decode (tw_cd 120) 10 = .ok (.if_icmp .ge 35, 3) := by decide +kernel
theorem tz_120_10 : tw_E sc d 120 10 [x0, x1, x2, x3, x4, x5] (.int w :: .int v :: st) g mi mr Q = if w ≤ v then tw_E sc d 120 45 [x0, x1, x2, x3, x4, x5] st g mi mr Q else tw_E sc d 120 13 [x0, x1, x2, x3, x4, x5] st g mi mr Q := tw_x_ic_ge td_120_10 (by decide)
theorem td_120_13 : decode (tw_cd 120) 13 = .ok (.iload 4, 2) := by decide +kernel
theorem tz_120_13 : tw_E sc d 120 13 [x0, x1, x2, x3, some (.int v), x5] st g mi mr Q = tw_E sc d 120 15 [x0, x1, x2, x3, some (.int v), x5] (.int v :: st) g mi mr Q := tw_x_iload td_120_13 rfl
theorem td_120_15 : decode (tw_cd 120) 15 = .ok (.aload_n 0, 1) := by decide +kernel
theorem tz_120_15 : tw_E sc d 120 15 [some (.ref a), x1, x2, x3, x4, x5] st g mi mr Q = tw_E sc d 120 16 [some (.ref a), x1, x2, x3, x4, x5] (.ref a :: st) g mi mr Q := tw_x_aload_n td_120_15 rfl
theorem td_120_16 : decode (tw_cd 120) 16 = .ok (.getfield 9, 3) := by decide +kernel
theorem tz_120_16 : tw_E sc d 120 16 [x0, x1, x2, x3, x4, x5] (.ref a :: st) g mi mr Q = (tw_kd g a = 8 ∧ tw_E sc d 120 19 [x0, x1, x2, x3, x4, x5] (va_rf (mr a 0) :: st) g mi mr Q) := tw_x_getr td_120_16 to_120 tf_8_9 (trf_8_0)
theorem td_120_19 : decode (tw_cd 120) 19 = .ok (.iload_n 3, 1) := by decide +kernel
theorem tz_120_19 : tw_E sc d 120 19 [x0, x1, x2, some (.int v), x4, x5] st g mi mr Q = tw_E sc d 120 20 [x0, x1, x2, some (.int v), x4, x5] (.int v :: st) g mi mr Q := tw_x_iload_n td_120_19 rfl
theorem td_120_20 : decode (tw_cd 120) 20 = .ok (.iload_n 2, 1) := by decide +kernel
theorem tz_120_20 : tw_E sc d 120 20 [x0, x1, some (.int v), x3, x4, x5] st g mi mr Q = tw_E sc d 120 21 [x0, x1, some (.int v), x3, x4, x5] (.int v :: st) g mi mr Q := tw_x_iload_n td_120_20 rfl
theorem td_120_21 : decode (tw_cd 120) 21 = .ok (.iload 5, 2) := by decide +kernel
theorem tz_120_21 : tw_E sc d 120 21 [x0, x1, x2, x3, x4, some (.int v)] st g mi mr Q = tw_E sc d 120 23 [x0, x1, x2, x3, x4, some (.int v)] (.int v :: st) g mi mr Q := tw_x_iload td_120_21 rfl
theorem td_120_23 : decode (tw_cd 120) 23 = .ok (.iconst 1, 1) := by decide +kernel
theorem tz_120_23 : tw_E sc d 120 23 [x0, x1, x2, x3, x4, x5] st g mi mr Q = tw_E sc d 120 24 [x0, x1, x2, x3, x4, x5] (.int 1 :: st) g mi mr Q := tw_x_iconst td_120_23 (by decide)
theorem td_120_24 : decode (tw_cd 120) 24 = .ok (.iadd, 1) := by decide +kernel
theorem tz_120_24 : tw_E sc d 120 24 [x0, x1, x2, x3, x4, x5] (.int w :: .int v :: st) g mi mr Q = tw_E sc d 120 25 [x0, x1, x2, x3, x4, x5] (.int (v + w) :: st) g mi mr Q := tw_x_iadd td_120_24
theorem td_120_25 : decode (tw_cd 120) 25 = .ok (.imul, 1) := by decide +kernel
theorem tz_120_25 : tw_E sc d 120 25 [x0, x1, x2, x3, x4, x5] (.int w :: .int v :: st) g mi mr Q = tw_E sc d 120 26 [x0, x1, x2, x3, x4, x5] (.int (v * w) :: st) g mi mr Q := tw_x_imul td_120_25
theorem td_120_26 : decode (tw_cd 120) 26 = .ok (.iadd, 1) := by decide +kernel
theorem tz_120_26 : tw_E sc d 120 26 [x0, x1, x2, x3, x4, x5] (.int w :: .int v :: st) g mi mr Q = tw_E sc d 120 27 [x0, x1, x2, x3, x4, x5] (.int (v + w) :: st) g mi mr Q := tw_x_iadd td_120_26
theorem td_120_27 : decode (tw_cd 120) 27 = .ok (.iload_n 1, 1) := by decide +kernel
theorem tz_120_27 : tw_E sc d 120 27 [x0, some (.int v), x2, x3, x4, x5] st g mi mr Q = tw_E sc d 120 28 [x0, some (.int v), x2, x3, x4, x5] (.int v :: st) g mi mr Q := tw_x_iload_n td_120_27 rfl
theorem td_120_28 : decode (tw_cd 120) 28 = .ok (.invokevirtual 42, 3) := by decide +kernel
theorem tz_120_28 {a0 : Int32} {a1 : Int32} : tw_E sc (d + 1) 120 28 [x0, x1, x2, x3, x4, x5] ([.int a1, .int a0, .ref a, s1]) g mi mr Q = (tw_kd g a = 5 ∧ tw_E sc d 96 0 [some (.ref a), some (.int a0), some (.int a1)] [] g mi mr (tw_K sc (d + 1) 120 31 [x0, x1, x2, x3, x4, x5] [s1] Q)) := tw_x_cv (as := [.int a0, .int a1]) (r := [s1]) td_120_28 to_120 tc_8_42 to_96 rfl rfl rfl rfl
theorem td_120_31 : decode (tw_cd 120) 31 = .ok (.iconst 1, 1) := by decide +kernel
theorem tz_120_31 : tw_E sc d 120 31 [x0, x1, x2, x3, x4, x5] st g mi mr Q = tw_E sc d 120 32 [x0, x1, x2, x3, x4, x5] (.int 1 :: st) g mi mr Q := tw_x_iconst td_120_31 (by decide)
theorem td_120_32 : decode (tw_cd 120) 32 = .ok (.iand, 1) := by decide +kernel
theorem tz_120_32 : tw_E sc d 120 32 [x0, x1, x2, x3, x4, x5] (.int w :: .int v :: st) g mi mr Q = tw_E sc d 120 33 [x0, x1, x2, x3, x4, x5] (.int (v &&& w) :: st) g mi mr Q := tw_x_iand td_120_32
theorem td_120_33 : decode (tw_cd 120) 33 = .ok (.iload 5, 2) := by decide +kernel
theorem tz_120_33 : tw_E sc d 120 33 [x0, x1, x2, x3, x4, some (.int v)] st g mi mr Q = tw_E sc d 120 35 [x0, x1, x2, x3, x4, some (.int v)] (.int v :: st) g mi mr Q := tw_x_iload td_120_33 rfl
theorem td_120_35 : decode (tw_cd 120) 35 = .ok (.ishl, 1) := by decide +kernel
theorem tz_120_35 : tw_E sc d 120 35 [x0, x1, x2, x3, x4, x5] (.int w :: .int v :: st) g mi mr Q = tw_E sc d 120 36 [x0, x1, x2, x3, x4, x5] (.int (v <<< (w &&& 31)) :: st) g mi mr Q := tw_x_ishl td_120_35
theorem td_120_36 : decode (tw_cd 120) 36 = .ok (.ior, 1) := by decide +kernel
theorem tz_120_36 : tw_E sc d 120 36 [x0, x1, x2, x3, x4, x5] (.int w :: .int v :: st) g mi mr Q = tw_E sc d 120 37 [x0, x1, x2, x3, x4, x5] (.int (v ||| w) :: st) g mi mr Q := tw_x_ior td_120_36
theorem td_120_37 : decode (tw_cd 120) 37 = .ok (.istore 4, 2) := by decide +kernel
theorem tz_120_37 : tw_E sc d 120 37 [x0, x1, x2, x3, x4, x5] (.int v :: st) g mi mr Q = tw_E sc d 120 39 [x0, x1, x2, x3, some (.int v), x5] st g mi mr Q := tw_x_istore td_120_37 tp_120 rfl
theorem td_120_39 : decode (tw_cd 120) 39 = .ok (.iinc 5 1, 3) := by decide +kernel
theorem tz_120_39 : tw_E sc d 120 39 [x0, x1, x2, x3, x4, some (.int v)] st g mi mr Q = tw_E sc d 120 42 [x0, x1, x2, x3, x4, some (.int (v + 1))] st g mi mr Q := tw_x_iinc td_120_39 rfl (by first | rfl | (exact congrArg (v + ·) (by decide))) tp_120 rfl
theorem td_120_42 : decode (tw_cd 120) 42 = .ok (.goto (-36), 3) := by decide +kernel
theorem tz_120_42 : tw_E sc d 120 42 [x0, x1, x2, x3, x4, x5] st g mi mr Q = tw_E sc d 120 6 [x0, x1, x2, x3, x4, x5] st g mi mr Q := tw_x_goto td_120_42 (by decide)
theorem td_120_45 : decode (tw_cd 120) 45 = .ok (.iload 4, 2) := by decide +kernel
theorem tz_120_45 : tw_E sc d 120 45 [x0, x1, x2, x3, some (.int v), x5] st g mi mr Q = tw_E sc d 120 47 [x0, x1, x2, x3, some (.int v), x5] (.int v :: st) g mi mr Q := tw_x_iload td_120_45 rfl
theorem td_120_47 : decode (tw_cd 120) 47 = .ok (.ireturn, 1) := by decide +kernel
theorem tz_120_47 : tw_E sc d 120 47 [x0, x1, x2, x3, x4, x5] ([.int v]) g mi mr Q = Q (some (.int v)) g mi mr := tw_x_iret td_120_47 tr_120
end tz_120
-- 121: By_init
section tz_121
variable {sc : Nat × (Nat → Int32)} {d : Nat} {x0 x1 x2 : Option Value} {st : List Value} {g : tw_G} {mi : tw_I} {mr : tw_Q} {Q : Option Value → tw_G → tw_I → tw_Q → Prop} {v w u : Int32} {a b : Nat} {j h : Int64} {s1 s2 s3 s4 : Value}
theorem td_121_0 : decode (tw_cd 121) 0 = .ok (.aload_n 0, 1) := by decide +kernel
theorem tz_121_0 : tw_E sc d 121 0 [some (.ref a), x1, x2] st g mi mr Q = tw_E sc d 121 1 [some (.ref a), x1, x2] (.ref a :: st) g mi mr Q := tw_x_aload_n td_121_0 rfl
theorem td_121_1 : decode (tw_cd 121) 1 = .ok (.invokespecial 3, 3) := by decide +kernel
theorem tz_121_1 : tw_E sc (d + 1) 121 1 [x0, x1, x2] (.ref a :: []) g mi mr Q = tw_E sc (d + 1) 121 4 [x0, x1, x2] [] g mi mr Q := tw_x_obj td_121_1 to_121 toi_9 (by simp)
theorem td_121_4 : decode (tw_cd 121) 4 = .ok (.aload_n 0, 1) := by decide +kernel
theorem tz_121_4 : tw_E sc d 121 4 [some (.ref a), x1, x2] st g mi mr Q = tw_E sc d 121 5 [some (.ref a), x1, x2] (.ref a :: st) g mi mr Q := tw_x_aload_n td_121_4 rfl
theorem td_121_5 : decode (tw_cd 121) 5 = .ok (.aload_n 1, 1) := by decide +kernel
theorem tz_121_5 : tw_E sc d 121 5 [x0, some (.ref a), x2] st g mi mr Q = tw_E sc d 121 6 [x0, some (.ref a), x2] (.ref a :: st) g mi mr Q := tw_x_aload_n td_121_5 rfl
theorem tz_121_5n : tw_E sc d 121 5 [x0, some .null, x2] st g mi mr Q = tw_E sc d 121 6 [x0, some .null, x2] (.null :: st) g mi mr Q := tw_x_aload_nN td_121_5 rfl
theorem td_121_6 : decode (tw_cd 121) 6 = .ok (.putfield 9, 3) := by decide +kernel
theorem tz_121_6 : tw_E sc d 121 6 [x0, x1, x2] (.ref b :: .ref a :: st) g mi mr Q = (tw_kd g a = 9 ∧ tw_E sc d 121 9 [x0, x1, x2] st g mi (tw_st mr a (tw_st (mr a) 0 (some b))) Q) := tw_x_putr td_121_6 to_121 tf_9_9 (Or.inr ⟨rfl, rfl⟩) (trf_9_0)
theorem td_121_9 : decode (tw_cd 121) 9 = .ok (.aload_n 0, 1) := by decide +kernel
theorem tz_121_9 : tw_E sc d 121 9 [some (.ref a), x1, x2] st g mi mr Q = tw_E sc d 121 10 [some (.ref a), x1, x2] (.ref a :: st) g mi mr Q := tw_x_aload_n td_121_9 rfl
theorem td_121_10 : decode (tw_cd 121) 10 = .ok (.aload_n 2, 1) := by decide +kernel
theorem tz_121_10 : tw_E sc d 121 10 [x0, x1, some (.ref a)] st g mi mr Q = tw_E sc d 121 11 [x0, x1, some (.ref a)] (.ref a :: st) g mi mr Q := tw_x_aload_n td_121_10 rfl
theorem tz_121_10n : tw_E sc d 121 10 [x0, x1, some .null] st g mi mr Q = tw_E sc d 121 11 [x0, x1, some .null] (.null :: st) g mi mr Q := tw_x_aload_nN td_121_10 rfl
theorem td_121_11 : decode (tw_cd 121) 11 = .ok (.putfield 15, 3) := by decide +kernel
theorem tz_121_11 : tw_E sc d 121 11 [x0, x1, x2] (.ref b :: .ref a :: st) g mi mr Q = (tw_kd g a = 9 ∧ tw_E sc d 121 14 [x0, x1, x2] st g mi (tw_st mr a (tw_st (mr a) 1 (some b))) Q) := tw_x_putr td_121_11 to_121 tf_9_15 (Or.inr ⟨rfl, rfl⟩) (trf_9_1)
theorem td_121_14 : decode (tw_cd 121) 14 = .ok (.return_, 1) := by decide +kernel
theorem tz_121_14 : tw_E sc d 121 14 [x0, x1, x2] [] g mi mr Q = Q none g mi mr := tw_x_vret td_121_14 tr_121
end tz_121
-- 122: By_readAll
section tz_122
variable {sc : Nat × (Nat → Int32)} {d : Nat} {x0 x1 x2 x3 x4 x5 x6 : Option Value} {st : List Value} {g : tw_G} {mi : tw_I} {mr : tw_Q} {Q : Option Value → tw_G → tw_I → tw_Q → Prop} {v w u : Int32} {a b : Nat} {j h : Int64} {s1 s2 s3 s4 : Value}
theorem td_122_0 : decode (tw_cd 122) 0 = .ok (.aload_n 0, 1) := by decide +kernel
theorem tz_122_0 : tw_E sc d 122 0 [some (.ref a), x1, x2, x3, x4, x5, x6] st g mi mr Q = tw_E sc d 122 1 [some (.ref a), x1, x2, x3, x4, x5, x6] (.ref a :: st) g mi mr Q := tw_x_aload_n td_122_0 rfl
theorem td_122_1 : decode (tw_cd 122) 1 = .ok (.getfield 15, 3) := by decide +kernel
theorem tz_122_1 : tw_E sc d 122 1 [x0, x1, x2, x3, x4, x5, x6] (.ref a :: st) g mi mr Q = (tw_kd g a = 9 ∧ tw_E sc d 122 4 [x0, x1, x2, x3, x4, x5, x6] (va_rf (mr a 1) :: st) g mi mr Q) := tw_x_getr td_122_1 to_122 tf_9_15 (trf_9_1)
theorem td_122_4 : decode (tw_cd 122) 4 = .ok (.invokevirtual 19, 3) := by decide +kernel
theorem tz_122_4 : tw_E sc (d + 1) 122 4 [x0, x1, x2, x3, x4, x5, x6] ([.ref a]) g mi mr Q = (tw_kd g a = 7 ∧ tw_E sc d 109 0 [some (.ref a)] [] g mi mr (tw_K sc (d + 1) 122 7 [x0, x1, x2, x3, x4, x5, x6] [] Q)) := tw_x_cv (as := []) (r := []) td_122_4 to_122 tc_9_19 to_109 rfl rfl rfl rfl
theorem td_122_7 : decode (tw_cd 122) 7 = .ok (.aload_n 0, 1) := by decide +kernel
theorem tz_122_7 : tw_E sc d 122 7 [some (.ref a), x1, x2, x3, x4, x5, x6] st g mi mr Q = tw_E sc d 122 8 [some (.ref a), x1, x2, x3, x4, x5, x6] (.ref a :: st) g mi mr Q := tw_x_aload_n td_122_7 rfl
theorem td_122_8 : decode (tw_cd 122) 8 = .ok (.iconst 0, 1) := by decide +kernel
theorem tz_122_8 : tw_E sc d 122 8 [x0, x1, x2, x3, x4, x5, x6] st g mi mr Q = tw_E sc d 122 9 [x0, x1, x2, x3, x4, x5, x6] (.int 0 :: st) g mi mr Q := tw_x_iconst td_122_8 (by decide)
theorem td_122_9 : decode (tw_cd 122) 9 = .ok (.putfield 24, 3) := by decide +kernel
theorem tz_122_9 : tw_E sc d 122 9 [x0, x1, x2, x3, x4, x5, x6] (.int v :: .ref a :: st) g mi mr Q = ((tw_kd g a = 9 ∧ (v = 0 ∨ v = 1)) ∧ tw_E sc d 122 12 [x0, x1, x2, x3, x4, x5, x6] st g (tw_st mi a (tw_st (mi a) 2 v)) mr Q) := tw_x_putz td_122_9 to_122 tf_9_24 rfl rfl
theorem td_122_12 : decode (tw_cd 122) 12 = .ok (.iconst 1, 1) := by decide +kernel
theorem tz_122_12 : tw_E sc d 122 12 [x0, x1, x2, x3, x4, x5, x6] st g mi mr Q = tw_E sc d 122 13 [x0, x1, x2, x3, x4, x5, x6] (.int 1 :: st) g mi mr Q := tw_x_iconst td_122_12 (by decide)
theorem td_122_13 : decode (tw_cd 122) 13 = .ok (.istore_n 3, 1) := by decide +kernel
theorem tz_122_13 : tw_E sc d 122 13 [x0, x1, x2, x3, x4, x5, x6] (.int v :: st) g mi mr Q = tw_E sc d 122 14 [x0, x1, x2, some (.int v), x4, x5, x6] st g mi mr Q := tw_x_istore_n td_122_13 tp_122 rfl
theorem td_122_14 : decode (tw_cd 122) 14 = .ok (.iload_n 3, 1) := by decide +kernel
theorem tz_122_14 : tw_E sc d 122 14 [x0, x1, x2, some (.int v), x4, x5, x6] st g mi mr Q = tw_E sc d 122 15 [x0, x1, x2, some (.int v), x4, x5, x6] (.int v :: st) g mi mr Q := tw_x_iload_n td_122_14 rfl
theorem td_122_15 : decode (tw_cd 122) 15 = .ok (.aload_n 0, 1) := by decide +kernel
theorem tz_122_15 : tw_E sc d 122 15 [some (.ref a), x1, x2, x3, x4, x5, x6] st g mi mr Q = tw_E sc d 122 16 [some (.ref a), x1, x2, x3, x4, x5, x6] (.ref a :: st) g mi mr Q := tw_x_aload_n td_122_15 rfl
theorem td_122_16 : decode (tw_cd 122) 16 = .ok (.getfield 9, 3) := by decide +kernel
theorem tz_122_16 : tw_E sc d 122 16 [x0, x1, x2, x3, x4, x5, x6] (.ref a :: st) g mi mr Q = (tw_kd g a = 9 ∧ tw_E sc d 122 19 [x0, x1, x2, x3, x4, x5, x6] (va_rf (mr a 0) :: st) g mi mr Q) := tw_x_getr td_122_16 to_122 tf_9_9 (trf_9_0)
theorem td_122_19 : decode (tw_cd 122) 19 = .ok (.invokevirtual 28, 3) := by decide +kernel
theorem tz_122_19 : tw_E sc (d + 1) 122 19 [x0, x1, x2, x3, x4, x5, x6] ([.ref a, s1]) g mi mr Q = (tw_kd g a = 5 ∧ tw_E sc d 90 0 [some (.ref a)] [] g mi mr (tw_K sc (d + 1) 122 22 [x0, x1, x2, x3, x4, x5, x6] [s1] Q)) := tw_x_cv (as := []) (r := [s1]) td_122_19 to_122 tc_9_28 to_90 rfl rfl rfl rfl
theorem td_122_22 : decode (tw_cd 122) 22 = .ok (.if_icmp .ge 114, 3) := by decide +kernel
theorem tz_122_22 : tw_E sc d 122 22 [x0, x1, x2, x3, x4, x5, x6] (.int w :: .int v :: st) g mi mr Q = if w ≤ v then tw_E sc d 122 136 [x0, x1, x2, x3, x4, x5, x6] st g mi mr Q else tw_E sc d 122 25 [x0, x1, x2, x3, x4, x5, x6] st g mi mr Q := tw_x_ic_ge td_122_22 (by decide)
theorem td_122_25 : decode (tw_cd 122) 25 = .ok (.aload_n 0, 1) := by decide +kernel
theorem tz_122_25 : tw_E sc d 122 25 [some (.ref a), x1, x2, x3, x4, x5, x6] st g mi mr Q = tw_E sc d 122 26 [some (.ref a), x1, x2, x3, x4, x5, x6] (.ref a :: st) g mi mr Q := tw_x_aload_n td_122_25 rfl
theorem td_122_26 : decode (tw_cd 122) 26 = .ok (.getfield 15, 3) := by decide +kernel
theorem tz_122_26 : tw_E sc d 122 26 [x0, x1, x2, x3, x4, x5, x6] (.ref a :: st) g mi mr Q = (tw_kd g a = 9 ∧ tw_E sc d 122 29 [x0, x1, x2, x3, x4, x5, x6] (va_rf (mr a 1) :: st) g mi mr Q) := tw_x_getr td_122_26 to_122 tf_9_15 (trf_9_1)
theorem td_122_29 : decode (tw_cd 122) 29 = .ok (.invokevirtual 34, 3) := by decide +kernel
theorem tz_122_29 : tw_E sc (d + 1) 122 29 [x0, x1, x2, x3, x4, x5, x6] ([.ref a]) g mi mr Q = (tw_kd g a = 7 ∧ tw_E sc d 111 0 [some (.ref a)] [] g mi mr (tw_K sc (d + 1) 122 32 [x0, x1, x2, x3, x4, x5, x6] [] Q)) := tw_x_cv (as := []) (r := []) td_122_29 to_122 tc_9_34 to_111 rfl rfl rfl rfl
theorem td_122_32 : decode (tw_cd 122) 32 = .ok (.ifCond .ne 104, 3) := by decide +kernel
theorem tz_122_32 : tw_E sc d 122 32 [x0, x1, x2, x3, x4, x5, x6] (.int v :: st) g mi mr Q = if ¬ v = 0 then tw_E sc d 122 136 [x0, x1, x2, x3, x4, x5, x6] st g mi mr Q else tw_E sc d 122 35 [x0, x1, x2, x3, x4, x5, x6] st g mi mr Q := tw_x_if_ne td_122_32 (by decide)
theorem td_122_35 : decode (tw_cd 122) 35 = .ok (.aload_n 0, 1) := by decide +kernel
theorem tz_122_35 : tw_E sc d 122 35 [some (.ref a), x1, x2, x3, x4, x5, x6] st g mi mr Q = tw_E sc d 122 36 [some (.ref a), x1, x2, x3, x4, x5, x6] (.ref a :: st) g mi mr Q := tw_x_aload_n td_122_35 rfl
theorem td_122_36 : decode (tw_cd 122) 36 = .ok (.getfield 9, 3) := by decide +kernel
theorem tz_122_36 : tw_E sc d 122 36 [x0, x1, x2, x3, x4, x5, x6] (.ref a :: st) g mi mr Q = (tw_kd g a = 9 ∧ tw_E sc d 122 39 [x0, x1, x2, x3, x4, x5, x6] (va_rf (mr a 0) :: st) g mi mr Q) := tw_x_getr td_122_36 to_122 tf_9_9 (trf_9_0)
theorem td_122_39 : decode (tw_cd 122) 39 = .ok (.iload_n 3, 1) := by decide +kernel
theorem tz_122_39 : tw_E sc d 122 39 [x0, x1, x2, some (.int v), x4, x5, x6] st g mi mr Q = tw_E sc d 122 40 [x0, x1, x2, some (.int v), x4, x5, x6] (.int v :: st) g mi mr Q := tw_x_iload_n td_122_39 rfl
theorem td_122_40 : decode (tw_cd 122) 40 = .ok (.iconst 1, 1) := by decide +kernel
theorem tz_122_40 : tw_E sc d 122 40 [x0, x1, x2, x3, x4, x5, x6] st g mi mr Q = tw_E sc d 122 41 [x0, x1, x2, x3, x4, x5, x6] (.int 1 :: st) g mi mr Q := tw_x_iconst td_122_40 (by decide)
theorem td_122_41 : decode (tw_cd 122) 41 = .ok (.isub, 1) := by decide +kernel
theorem tz_122_41 : tw_E sc d 122 41 [x0, x1, x2, x3, x4, x5, x6] (.int w :: .int v :: st) g mi mr Q = tw_E sc d 122 42 [x0, x1, x2, x3, x4, x5, x6] (.int (v - w) :: st) g mi mr Q := tw_x_isub td_122_41
theorem td_122_42 : decode (tw_cd 122) 42 = .ok (.iload_n 1, 1) := by decide +kernel
theorem tz_122_42 : tw_E sc d 122 42 [x0, some (.int v), x2, x3, x4, x5, x6] st g mi mr Q = tw_E sc d 122 43 [x0, some (.int v), x2, x3, x4, x5, x6] (.int v :: st) g mi mr Q := tw_x_iload_n td_122_42 rfl
theorem td_122_43 : decode (tw_cd 122) 43 = .ok (.invokevirtual 38, 3) := by decide +kernel
theorem tz_122_43 {a0 : Int32} {a1 : Int32} : tw_E sc (d + 1) 122 43 [x0, x1, x2, x3, x4, x5, x6] ([.int a1, .int a0, .ref a]) g mi mr Q = (tw_kd g a = 5 ∧ tw_E sc d 96 0 [some (.ref a), some (.int a0), some (.int a1)] [] g mi mr (tw_K sc (d + 1) 122 46 [x0, x1, x2, x3, x4, x5, x6] [] Q)) := tw_x_cv (as := [.int a0, .int a1]) (r := []) td_122_43 to_122 tc_9_38 to_96 rfl rfl rfl rfl
theorem td_122_46 : decode (tw_cd 122) 46 = .ok (.istore 4, 2) := by decide +kernel
theorem tz_122_46 : tw_E sc d 122 46 [x0, x1, x2, x3, x4, x5, x6] (.int v :: st) g mi mr Q = tw_E sc d 122 48 [x0, x1, x2, x3, some (.int v), x5, x6] st g mi mr Q := tw_x_istore td_122_46 tp_122 rfl
theorem td_122_48 : decode (tw_cd 122) 48 = .ok (.aload_n 0, 1) := by decide +kernel
theorem tz_122_48 : tw_E sc d 122 48 [some (.ref a), x1, x2, x3, x4, x5, x6] st g mi mr Q = tw_E sc d 122 49 [some (.ref a), x1, x2, x3, x4, x5, x6] (.ref a :: st) g mi mr Q := tw_x_aload_n td_122_48 rfl
theorem td_122_49 : decode (tw_cd 122) 49 = .ok (.getfield 9, 3) := by decide +kernel
theorem tz_122_49 : tw_E sc d 122 49 [x0, x1, x2, x3, x4, x5, x6] (.ref a :: st) g mi mr Q = (tw_kd g a = 9 ∧ tw_E sc d 122 52 [x0, x1, x2, x3, x4, x5, x6] (va_rf (mr a 0) :: st) g mi mr Q) := tw_x_getr td_122_49 to_122 tf_9_9 (trf_9_0)
theorem td_122_52 : decode (tw_cd 122) 52 = .ok (.iload_n 3, 1) := by decide +kernel
theorem tz_122_52 : tw_E sc d 122 52 [x0, x1, x2, some (.int v), x4, x5, x6] st g mi mr Q = tw_E sc d 122 53 [x0, x1, x2, some (.int v), x4, x5, x6] (.int v :: st) g mi mr Q := tw_x_iload_n td_122_52 rfl
theorem td_122_53 : decode (tw_cd 122) 53 = .ok (.iload_n 1, 1) := by decide +kernel
theorem tz_122_53 : tw_E sc d 122 53 [x0, some (.int v), x2, x3, x4, x5, x6] st g mi mr Q = tw_E sc d 122 54 [x0, some (.int v), x2, x3, x4, x5, x6] (.int v :: st) g mi mr Q := tw_x_iload_n td_122_53 rfl
theorem td_122_54 : decode (tw_cd 122) 54 = .ok (.invokevirtual 38, 3) := by decide +kernel
theorem tz_122_54 {a0 : Int32} {a1 : Int32} : tw_E sc (d + 1) 122 54 [x0, x1, x2, x3, x4, x5, x6] ([.int a1, .int a0, .ref a]) g mi mr Q = (tw_kd g a = 5 ∧ tw_E sc d 96 0 [some (.ref a), some (.int a0), some (.int a1)] [] g mi mr (tw_K sc (d + 1) 122 57 [x0, x1, x2, x3, x4, x5, x6] [] Q)) := tw_x_cv (as := [.int a0, .int a1]) (r := []) td_122_54 to_122 tc_9_38 to_96 rfl rfl rfl rfl
theorem td_122_57 : decode (tw_cd 122) 57 = .ok (.istore 5, 2) := by decide +kernel
theorem tz_122_57 : tw_E sc d 122 57 [x0, x1, x2, x3, x4, x5, x6] (.int v :: st) g mi mr Q = tw_E sc d 122 59 [x0, x1, x2, x3, x4, some (.int v), x6] st g mi mr Q := tw_x_istore td_122_57 tp_122 rfl
theorem td_122_59 : decode (tw_cd 122) 59 = .ok (.aload_n 0, 1) := by decide +kernel
theorem tz_122_59 : tw_E sc d 122 59 [some (.ref a), x1, x2, x3, x4, x5, x6] st g mi mr Q = tw_E sc d 122 60 [some (.ref a), x1, x2, x3, x4, x5, x6] (.ref a :: st) g mi mr Q := tw_x_aload_n td_122_59 rfl
theorem td_122_60 : decode (tw_cd 122) 60 = .ok (.getfield 9, 3) := by decide +kernel
theorem tz_122_60 : tw_E sc d 122 60 [x0, x1, x2, x3, x4, x5, x6] (.ref a :: st) g mi mr Q = (tw_kd g a = 9 ∧ tw_E sc d 122 63 [x0, x1, x2, x3, x4, x5, x6] (va_rf (mr a 0) :: st) g mi mr Q) := tw_x_getr td_122_60 to_122 tf_9_9 (trf_9_0)
theorem td_122_63 : decode (tw_cd 122) 63 = .ok (.iload_n 3, 1) := by decide +kernel
theorem tz_122_63 : tw_E sc d 122 63 [x0, x1, x2, some (.int v), x4, x5, x6] st g mi mr Q = tw_E sc d 122 64 [x0, x1, x2, some (.int v), x4, x5, x6] (.int v :: st) g mi mr Q := tw_x_iload_n td_122_63 rfl
theorem td_122_64 : decode (tw_cd 122) 64 = .ok (.iconst 1, 1) := by decide +kernel
theorem tz_122_64 : tw_E sc d 122 64 [x0, x1, x2, x3, x4, x5, x6] st g mi mr Q = tw_E sc d 122 65 [x0, x1, x2, x3, x4, x5, x6] (.int 1 :: st) g mi mr Q := tw_x_iconst td_122_64 (by decide)
theorem td_122_65 : decode (tw_cd 122) 65 = .ok (.isub, 1) := by decide +kernel
theorem tz_122_65 : tw_E sc d 122 65 [x0, x1, x2, x3, x4, x5, x6] (.int w :: .int v :: st) g mi mr Q = tw_E sc d 122 66 [x0, x1, x2, x3, x4, x5, x6] (.int (v - w) :: st) g mi mr Q := tw_x_isub td_122_65
theorem td_122_66 : decode (tw_cd 122) 66 = .ok (.iload_n 2, 1) := by decide +kernel
theorem tz_122_66 : tw_E sc d 122 66 [x0, x1, some (.int v), x3, x4, x5, x6] st g mi mr Q = tw_E sc d 122 67 [x0, x1, some (.int v), x3, x4, x5, x6] (.int v :: st) g mi mr Q := tw_x_iload_n td_122_66 rfl
theorem td_122_67 : decode (tw_cd 122) 67 = .ok (.invokevirtual 38, 3) := by decide +kernel
theorem tz_122_67 {a0 : Int32} {a1 : Int32} : tw_E sc (d + 1) 122 67 [x0, x1, x2, x3, x4, x5, x6] ([.int a1, .int a0, .ref a]) g mi mr Q = (tw_kd g a = 5 ∧ tw_E sc d 96 0 [some (.ref a), some (.int a0), some (.int a1)] [] g mi mr (tw_K sc (d + 1) 122 70 [x0, x1, x2, x3, x4, x5, x6] [] Q)) := tw_x_cv (as := [.int a0, .int a1]) (r := []) td_122_67 to_122 tc_9_38 to_96 rfl rfl rfl rfl
theorem td_122_70 : decode (tw_cd 122) 70 = .ok (.istore 6, 2) := by decide +kernel
theorem tz_122_70 : tw_E sc d 122 70 [x0, x1, x2, x3, x4, x5, x6] (.int v :: st) g mi mr Q = tw_E sc d 122 72 [x0, x1, x2, x3, x4, x5, some (.int v)] st g mi mr Q := tw_x_istore td_122_70 tp_122 rfl
theorem td_122_72 : decode (tw_cd 122) 72 = .ok (.iload 4, 2) := by decide +kernel
theorem tz_122_72 : tw_E sc d 122 72 [x0, x1, x2, x3, some (.int v), x5, x6] st g mi mr Q = tw_E sc d 122 74 [x0, x1, x2, x3, some (.int v), x5, x6] (.int v :: st) g mi mr Q := tw_x_iload td_122_72 rfl
theorem td_122_74 : decode (tw_cd 122) 74 = .ok (.iconst 1, 1) := by decide +kernel
theorem tz_122_74 : tw_E sc d 122 74 [x0, x1, x2, x3, x4, x5, x6] st g mi mr Q = tw_E sc d 122 75 [x0, x1, x2, x3, x4, x5, x6] (.int 1 :: st) g mi mr Q := tw_x_iconst td_122_74 (by decide)
theorem td_122_75 : decode (tw_cd 122) 75 = .ok (.if_icmp .ne 28, 3) := by decide +kernel
theorem tz_122_75 : tw_E sc d 122 75 [x0, x1, x2, x3, x4, x5, x6] (.int w :: .int v :: st) g mi mr Q = if ¬ v = w then tw_E sc d 122 103 [x0, x1, x2, x3, x4, x5, x6] st g mi mr Q else tw_E sc d 122 78 [x0, x1, x2, x3, x4, x5, x6] st g mi mr Q := tw_x_ic_ne td_122_75 (by decide)
theorem td_122_78 : decode (tw_cd 122) 78 = .ok (.iload 5, 2) := by decide +kernel
theorem tz_122_78 : tw_E sc d 122 78 [x0, x1, x2, x3, x4, some (.int v), x6] st g mi mr Q = tw_E sc d 122 80 [x0, x1, x2, x3, x4, some (.int v), x6] (.int v :: st) g mi mr Q := tw_x_iload td_122_78 rfl
theorem td_122_80 : decode (tw_cd 122) 80 = .ok (.iconst 1, 1) := by decide +kernel
theorem tz_122_80 : tw_E sc d 122 80 [x0, x1, x2, x3, x4, x5, x6] st g mi mr Q = tw_E sc d 122 81 [x0, x1, x2, x3, x4, x5, x6] (.int 1 :: st) g mi mr Q := tw_x_iconst td_122_80 (by decide)
theorem td_122_81 : decode (tw_cd 122) 81 = .ok (.if_icmp .ne 22, 3) := by decide +kernel
theorem tz_122_81 : tw_E sc d 122 81 [x0, x1, x2, x3, x4, x5, x6] (.int w :: .int v :: st) g mi mr Q = if ¬ v = w then tw_E sc d 122 103 [x0, x1, x2, x3, x4, x5, x6] st g mi mr Q else tw_E sc d 122 84 [x0, x1, x2, x3, x4, x5, x6] st g mi mr Q := tw_x_ic_ne td_122_81 (by decide)
theorem td_122_84 : decode (tw_cd 122) 84 = .ok (.aload_n 0, 1) := by decide +kernel
theorem tz_122_84 : tw_E sc d 122 84 [some (.ref a), x1, x2, x3, x4, x5, x6] st g mi mr Q = tw_E sc d 122 85 [some (.ref a), x1, x2, x3, x4, x5, x6] (.ref a :: st) g mi mr Q := tw_x_aload_n td_122_84 rfl
theorem td_122_85 : decode (tw_cd 122) 85 = .ok (.iload_n 3, 1) := by decide +kernel
theorem tz_122_85 : tw_E sc d 122 85 [x0, x1, x2, some (.int v), x4, x5, x6] st g mi mr Q = tw_E sc d 122 86 [x0, x1, x2, some (.int v), x4, x5, x6] (.int v :: st) g mi mr Q := tw_x_iload_n td_122_85 rfl
theorem td_122_86 : decode (tw_cd 122) 86 = .ok (.iload 6, 2) := by decide +kernel
theorem tz_122_86 : tw_E sc d 122 86 [x0, x1, x2, x3, x4, x5, some (.int v)] st g mi mr Q = tw_E sc d 122 88 [x0, x1, x2, x3, x4, x5, some (.int v)] (.int v :: st) g mi mr Q := tw_x_iload td_122_86 rfl
theorem td_122_88 : decode (tw_cd 122) 88 = .ok (.aload_n 0, 1) := by decide +kernel
theorem tz_122_88 : tw_E sc d 122 88 [some (.ref a), x1, x2, x3, x4, x5, x6] st g mi mr Q = tw_E sc d 122 89 [some (.ref a), x1, x2, x3, x4, x5, x6] (.ref a :: st) g mi mr Q := tw_x_aload_n td_122_88 rfl
theorem td_122_89 : decode (tw_cd 122) 89 = .ok (.getfield 9, 3) := by decide +kernel
theorem tz_122_89 : tw_E sc d 122 89 [x0, x1, x2, x3, x4, x5, x6] (.ref a :: st) g mi mr Q = (tw_kd g a = 9 ∧ tw_E sc d 122 92 [x0, x1, x2, x3, x4, x5, x6] (va_rf (mr a 0) :: st) g mi mr Q) := tw_x_getr td_122_89 to_122 tf_9_9 (trf_9_0)
theorem td_122_92 : decode (tw_cd 122) 92 = .ok (.iload_n 3, 1) := by decide +kernel
theorem tz_122_92 : tw_E sc d 122 92 [x0, x1, x2, some (.int v), x4, x5, x6] st g mi mr Q = tw_E sc d 122 93 [x0, x1, x2, some (.int v), x4, x5, x6] (.int v :: st) g mi mr Q := tw_x_iload_n td_122_92 rfl
theorem td_122_93 : decode (tw_cd 122) 93 = .ok (.iload_n 2, 1) := by decide +kernel
theorem tz_122_93 : tw_E sc d 122 93 [x0, x1, some (.int v), x3, x4, x5, x6] st g mi mr Q = tw_E sc d 122 94 [x0, x1, some (.int v), x3, x4, x5, x6] (.int v :: st) g mi mr Q := tw_x_iload_n td_122_93 rfl
theorem td_122_94 : decode (tw_cd 122) 94 = .ok (.invokevirtual 38, 3) := by decide +kernel
theorem tz_122_94 {a0 : Int32} {a1 : Int32} : tw_E sc (d + 1) 122 94 [x0, x1, x2, x3, x4, x5, x6] ([.int a1, .int a0, .ref a, s1, s2, s3]) g mi mr Q = (tw_kd g a = 5 ∧ tw_E sc d 96 0 [some (.ref a), some (.int a0), some (.int a1)] [] g mi mr (tw_K sc (d + 1) 122 97 [x0, x1, x2, x3, x4, x5, x6] [s1, s2, s3] Q)) := tw_x_cv (as := [.int a0, .int a1]) (r := [s1, s2, s3]) td_122_94 to_122 tc_9_38 to_96 rfl rfl rfl rfl
theorem td_122_97 : decode (tw_cd 122) 97 = .ok (.invokevirtual 42, 3) := by decide +kernel
theorem tz_122_97 {a0 : Int32} {a1 : Int32} {a2 : Int32} : tw_E sc (d + 1) 122 97 [x0, x1, x2, x3, x4, x5, x6] ([.int a2, .int a1, .int a0, .ref a]) g mi mr Q = (tw_kd g a = 9 ∧ tw_E sc d 123 0 [some (.ref a), some (.int a0), some (.int a1), some (.int a2)] [] g mi mr (tw_K sc (d + 1) 122 100 [x0, x1, x2, x3, x4, x5, x6] [] Q)) := tw_x_cv (as := [.int a0, .int a1, .int a2]) (r := []) td_122_97 to_122 tc_9_42 to_123 rfl rfl rfl rfl
theorem td_122_100 : decode (tw_cd 122) 100 = .ok (.goto 30, 3) := by decide +kernel
theorem tz_122_100 : tw_E sc d 122 100 [x0, x1, x2, x3, x4, x5, x6] st g mi mr Q = tw_E sc d 122 130 [x0, x1, x2, x3, x4, x5, x6] st g mi mr Q := tw_x_goto td_122_100 (by decide)
theorem td_122_103 : decode (tw_cd 122) 103 = .ok (.iload 4, 2) := by decide +kernel
theorem tz_122_103 : tw_E sc d 122 103 [x0, x1, x2, x3, some (.int v), x5, x6] st g mi mr Q = tw_E sc d 122 105 [x0, x1, x2, x3, some (.int v), x5, x6] (.int v :: st) g mi mr Q := tw_x_iload td_122_103 rfl
theorem td_122_105 : decode (tw_cd 122) 105 = .ok (.iconst 1, 1) := by decide +kernel
theorem tz_122_105 : tw_E sc d 122 105 [x0, x1, x2, x3, x4, x5, x6] st g mi mr Q = tw_E sc d 122 106 [x0, x1, x2, x3, x4, x5, x6] (.int 1 :: st) g mi mr Q := tw_x_iconst td_122_105 (by decide)
theorem td_122_106 : decode (tw_cd 122) 106 = .ok (.if_icmp .ne 13, 3) := by decide +kernel
theorem tz_122_106 : tw_E sc d 122 106 [x0, x1, x2, x3, x4, x5, x6] (.int w :: .int v :: st) g mi mr Q = if ¬ v = w then tw_E sc d 122 119 [x0, x1, x2, x3, x4, x5, x6] st g mi mr Q else tw_E sc d 122 109 [x0, x1, x2, x3, x4, x5, x6] st g mi mr Q := tw_x_ic_ne td_122_106 (by decide)
theorem td_122_109 : decode (tw_cd 122) 109 = .ok (.aload_n 0, 1) := by decide +kernel
theorem tz_122_109 : tw_E sc d 122 109 [some (.ref a), x1, x2, x3, x4, x5, x6] st g mi mr Q = tw_E sc d 122 110 [some (.ref a), x1, x2, x3, x4, x5, x6] (.ref a :: st) g mi mr Q := tw_x_aload_n td_122_109 rfl
theorem td_122_110 : decode (tw_cd 122) 110 = .ok (.iload_n 3, 1) := by decide +kernel
theorem tz_122_110 : tw_E sc d 122 110 [x0, x1, x2, some (.int v), x4, x5, x6] st g mi mr Q = tw_E sc d 122 111 [x0, x1, x2, some (.int v), x4, x5, x6] (.int v :: st) g mi mr Q := tw_x_iload_n td_122_110 rfl
theorem td_122_111 : decode (tw_cd 122) 111 = .ok (.iload 6, 2) := by decide +kernel
theorem tz_122_111 : tw_E sc d 122 111 [x0, x1, x2, x3, x4, x5, some (.int v)] st g mi mr Q = tw_E sc d 122 113 [x0, x1, x2, x3, x4, x5, some (.int v)] (.int v :: st) g mi mr Q := tw_x_iload td_122_111 rfl
theorem td_122_113 : decode (tw_cd 122) 113 = .ok (.invokevirtual 46, 3) := by decide +kernel
theorem tz_122_113 {a0 : Int32} {a1 : Int32} : tw_E sc (d + 1) 122 113 [x0, x1, x2, x3, x4, x5, x6] ([.int a1, .int a0, .ref a]) g mi mr Q = (tw_kd g a = 9 ∧ tw_E sc d 124 0 [some (.ref a), some (.int a0), some (.int a1)] [] g mi mr (tw_K sc (d + 1) 122 116 [x0, x1, x2, x3, x4, x5, x6] [] Q)) := tw_x_cv (as := [.int a0, .int a1]) (r := []) td_122_113 to_122 tc_9_46 to_124 rfl rfl rfl rfl
theorem td_122_116 : decode (tw_cd 122) 116 = .ok (.goto 14, 3) := by decide +kernel
theorem tz_122_116 : tw_E sc d 122 116 [x0, x1, x2, x3, x4, x5, x6] st g mi mr Q = tw_E sc d 122 130 [x0, x1, x2, x3, x4, x5, x6] st g mi mr Q := tw_x_goto td_122_116 (by decide)
theorem td_122_119 : decode (tw_cd 122) 119 = .ok (.iload 5, 2) := by decide +kernel
theorem tz_122_119 : tw_E sc d 122 119 [x0, x1, x2, x3, x4, some (.int v), x6] st g mi mr Q = tw_E sc d 122 121 [x0, x1, x2, x3, x4, some (.int v), x6] (.int v :: st) g mi mr Q := tw_x_iload td_122_119 rfl
theorem td_122_121 : decode (tw_cd 122) 121 = .ok (.iconst 1, 1) := by decide +kernel
theorem tz_122_121 : tw_E sc d 122 121 [x0, x1, x2, x3, x4, x5, x6] st g mi mr Q = tw_E sc d 122 122 [x0, x1, x2, x3, x4, x5, x6] (.int 1 :: st) g mi mr Q := tw_x_iconst td_122_121 (by decide)
theorem td_122_122 : decode (tw_cd 122) 122 = .ok (.if_icmp .ne 8, 3) := by decide +kernel
theorem tz_122_122 : tw_E sc d 122 122 [x0, x1, x2, x3, x4, x5, x6] (.int w :: .int v :: st) g mi mr Q = if ¬ v = w then tw_E sc d 122 130 [x0, x1, x2, x3, x4, x5, x6] st g mi mr Q else tw_E sc d 122 125 [x0, x1, x2, x3, x4, x5, x6] st g mi mr Q := tw_x_ic_ne td_122_122 (by decide)
theorem td_122_125 : decode (tw_cd 122) 125 = .ok (.aload_n 0, 1) := by decide +kernel
theorem tz_122_125 : tw_E sc d 122 125 [some (.ref a), x1, x2, x3, x4, x5, x6] st g mi mr Q = tw_E sc d 122 126 [some (.ref a), x1, x2, x3, x4, x5, x6] (.ref a :: st) g mi mr Q := tw_x_aload_n td_122_125 rfl
theorem td_122_126 : decode (tw_cd 122) 126 = .ok (.iconst 1, 1) := by decide +kernel
theorem tz_122_126 : tw_E sc d 122 126 [x0, x1, x2, x3, x4, x5, x6] st g mi mr Q = tw_E sc d 122 127 [x0, x1, x2, x3, x4, x5, x6] (.int 1 :: st) g mi mr Q := tw_x_iconst td_122_126 (by decide)
theorem td_122_127 : decode (tw_cd 122) 127 = .ok (.putfield 50, 3) := by decide +kernel
theorem tz_122_127 : tw_E sc d 122 127 [x0, x1, x2, x3, x4, x5, x6] (.int v :: .ref a :: st) g mi mr Q = ((tw_kd g a = 9 ∧ (v = 0 ∨ v = 1)) ∧ tw_E sc d 122 130 [x0, x1, x2, x3, x4, x5, x6] st g (tw_st mi a (tw_st (mi a) 3 v)) mr Q) := tw_x_putz td_122_127 to_122 tf_9_50 rfl rfl
theorem td_122_130 : decode (tw_cd 122) 130 = .ok (.iinc 3 1, 3) := by decide +kernel
theorem tz_122_130 : tw_E sc d 122 130 [x0, x1, x2, some (.int v), x4, x5, x6] st g mi mr Q = tw_E sc d 122 133 [x0, x1, x2, some (.int (v + 1)), x4, x5, x6] st g mi mr Q := tw_x_iinc td_122_130 rfl (by first | rfl | (exact congrArg (v + ·) (by decide))) tp_122 rfl
theorem td_122_133 : decode (tw_cd 122) 133 = .ok (.goto (-119), 3) := by decide +kernel
theorem tz_122_133 : tw_E sc d 122 133 [x0, x1, x2, x3, x4, x5, x6] st g mi mr Q = tw_E sc d 122 14 [x0, x1, x2, x3, x4, x5, x6] st g mi mr Q := tw_x_goto td_122_133 (by decide)
theorem td_122_136 : decode (tw_cd 122) 136 = .ok (.return_, 1) := by decide +kernel
theorem tz_122_136 : tw_E sc d 122 136 [x0, x1, x2, x3, x4, x5, x6] [] g mi mr Q = Q none g mi mr := tw_x_vret td_122_136 tr_122
end tz_122
-- 123: By_lookAtData
section tz_123
variable {sc : Nat × (Nat → Int32)} {d : Nat} {x0 x1 x2 x3 : Option Value} {st : List Value} {g : tw_G} {mi : tw_I} {mr : tw_Q} {Q : Option Value → tw_G → tw_I → tw_Q → Prop} {v w u : Int32} {a b : Nat} {j h : Int64} {s1 s2 s3 s4 : Value}
theorem td_123_0 : decode (tw_cd 123) 0 = .ok (.iload_n 2, 1) := by decide +kernel
theorem tz_123_0 : tw_E sc d 123 0 [x0, x1, some (.int v), x3] st g mi mr Q = tw_E sc d 123 1 [x0, x1, some (.int v), x3] (.int v :: st) g mi mr Q := tw_x_iload_n td_123_0 rfl
theorem td_123_1 : decode (tw_cd 123) 1 = .ok (.iconst 1, 1) := by decide +kernel
theorem tz_123_1 : tw_E sc d 123 1 [x0, x1, x2, x3] st g mi mr Q = tw_E sc d 123 2 [x0, x1, x2, x3] (.int 1 :: st) g mi mr Q := tw_x_iconst td_123_1 (by decide)
theorem td_123_2 : decode (tw_cd 123) 2 = .ok (.if_icmp .ne 39, 3) := by decide +kernel
theorem tz_123_2 : tw_E sc d 123 2 [x0, x1, x2, x3] (.int w :: .int v :: st) g mi mr Q = if ¬ v = w then tw_E sc d 123 41 [x0, x1, x2, x3] st g mi mr Q else tw_E sc d 123 5 [x0, x1, x2, x3] st g mi mr Q := tw_x_ic_ne td_123_2 (by decide)
theorem td_123_5 : decode (tw_cd 123) 5 = .ok (.iload_n 3, 1) := by decide +kernel
theorem tz_123_5 : tw_E sc d 123 5 [x0, x1, x2, some (.int v)] st g mi mr Q = tw_E sc d 123 6 [x0, x1, x2, some (.int v)] (.int v :: st) g mi mr Q := tw_x_iload_n td_123_5 rfl
theorem td_123_6 : decode (tw_cd 123) 6 = .ok (.ifCond .ne 35, 3) := by decide +kernel
theorem tz_123_6 : tw_E sc d 123 6 [x0, x1, x2, x3] (.int v :: st) g mi mr Q = if ¬ v = 0 then tw_E sc d 123 41 [x0, x1, x2, x3] st g mi mr Q else tw_E sc d 123 9 [x0, x1, x2, x3] st g mi mr Q := tw_x_if_ne td_123_6 (by decide)
theorem td_123_9 : decode (tw_cd 123) 9 = .ok (.aload_n 0, 1) := by decide +kernel
theorem tz_123_9 : tw_E sc d 123 9 [some (.ref a), x1, x2, x3] st g mi mr Q = tw_E sc d 123 10 [some (.ref a), x1, x2, x3] (.ref a :: st) g mi mr Q := tw_x_aload_n td_123_9 rfl
theorem td_123_10 : decode (tw_cd 123) 10 = .ok (.getfield 15, 3) := by decide +kernel
theorem tz_123_10 : tw_E sc d 123 10 [x0, x1, x2, x3] (.ref a :: st) g mi mr Q = (tw_kd g a = 9 ∧ tw_E sc d 123 13 [x0, x1, x2, x3] (va_rf (mr a 1) :: st) g mi mr Q) := tw_x_getr td_123_10 to_123 tf_9_15 (trf_9_1)
theorem td_123_13 : decode (tw_cd 123) 13 = .ok (.iconst 1, 1) := by decide +kernel
theorem tz_123_13 : tw_E sc d 123 13 [x0, x1, x2, x3] st g mi mr Q = tw_E sc d 123 14 [x0, x1, x2, x3] (.int 1 :: st) g mi mr Q := tw_x_iconst td_123_13 (by decide)
theorem td_123_14 : decode (tw_cd 123) 14 = .ok (.iload_n 1, 1) := by decide +kernel
theorem tz_123_14 : tw_E sc d 123 14 [x0, some (.int v), x2, x3] st g mi mr Q = tw_E sc d 123 15 [x0, some (.int v), x2, x3] (.int v :: st) g mi mr Q := tw_x_iload_n td_123_14 rfl
theorem td_123_15 : decode (tw_cd 123) 15 = .ok (.invokevirtual 53, 3) := by decide +kernel
theorem tz_123_15 {a0 : Int32} {a1 : Int32} : tw_E sc (d + 1) 123 15 [x0, x1, x2, x3] ([.int a1, .int a0, .ref a]) g mi mr Q = (tw_kd g a = 7 ∧ tw_E sc d 113 0 [some (.ref a), some (.int a0), some (.int a1)] [] g mi mr (tw_K sc (d + 1) 123 18 [x0, x1, x2, x3] [] Q)) := tw_x_cv (as := [.int a0, .int a1]) (r := []) td_123_15 to_123 tc_9_53 to_113 rfl rfl rfl rfl
theorem td_123_18 : decode (tw_cd 123) 18 = .ok (.aload_n 0, 1) := by decide +kernel
theorem tz_123_18 : tw_E sc d 123 18 [some (.ref a), x1, x2, x3] st g mi mr Q = tw_E sc d 123 19 [some (.ref a), x1, x2, x3] (.ref a :: st) g mi mr Q := tw_x_aload_n td_123_18 rfl
theorem td_123_19 : decode (tw_cd 123) 19 = .ok (.iconst 1, 1) := by decide +kernel
theorem tz_123_19 : tw_E sc d 123 19 [x0, x1, x2, x3] st g mi mr Q = tw_E sc d 123 20 [x0, x1, x2, x3] (.int 1 :: st) g mi mr Q := tw_x_iconst td_123_19 (by decide)
theorem td_123_20 : decode (tw_cd 123) 20 = .ok (.putfield 24, 3) := by decide +kernel
theorem tz_123_20 : tw_E sc d 123 20 [x0, x1, x2, x3] (.int v :: .ref a :: st) g mi mr Q = ((tw_kd g a = 9 ∧ (v = 0 ∨ v = 1)) ∧ tw_E sc d 123 23 [x0, x1, x2, x3] st g (tw_st mi a (tw_st (mi a) 2 v)) mr Q) := tw_x_putz td_123_20 to_123 tf_9_24 rfl rfl
theorem td_123_23 : decode (tw_cd 123) 23 = .ok (.aload_n 0, 1) := by decide +kernel
theorem tz_123_23 : tw_E sc d 123 23 [some (.ref a), x1, x2, x3] st g mi mr Q = tw_E sc d 123 24 [some (.ref a), x1, x2, x3] (.ref a :: st) g mi mr Q := tw_x_aload_n td_123_23 rfl
theorem td_123_24 : decode (tw_cd 123) 24 = .ok (.iconst 0, 1) := by decide +kernel
theorem tz_123_24 : tw_E sc d 123 24 [x0, x1, x2, x3] st g mi mr Q = tw_E sc d 123 25 [x0, x1, x2, x3] (.int 0 :: st) g mi mr Q := tw_x_iconst td_123_24 (by decide)
theorem td_123_25 : decode (tw_cd 123) 25 = .ok (.putfield 50, 3) := by decide +kernel
theorem tz_123_25 : tw_E sc d 123 25 [x0, x1, x2, x3] (.int v :: .ref a :: st) g mi mr Q = ((tw_kd g a = 9 ∧ (v = 0 ∨ v = 1)) ∧ tw_E sc d 123 28 [x0, x1, x2, x3] st g (tw_st mi a (tw_st (mi a) 3 v)) mr Q) := tw_x_putz td_123_25 to_123 tf_9_50 rfl rfl
theorem td_123_28 : decode (tw_cd 123) 28 = .ok (.aload_n 0, 1) := by decide +kernel
theorem tz_123_28 : tw_E sc d 123 28 [some (.ref a), x1, x2, x3] st g mi mr Q = tw_E sc d 123 29 [some (.ref a), x1, x2, x3] (.ref a :: st) g mi mr Q := tw_x_aload_n td_123_28 rfl
theorem td_123_29 : decode (tw_cd 123) 29 = .ok (.iconst 0, 1) := by decide +kernel
theorem tz_123_29 : tw_E sc d 123 29 [x0, x1, x2, x3] st g mi mr Q = tw_E sc d 123 30 [x0, x1, x2, x3] (.int 0 :: st) g mi mr Q := tw_x_iconst td_123_29 (by decide)
theorem td_123_30 : decode (tw_cd 123) 30 = .ok (.putfield 56, 3) := by decide +kernel
theorem tz_123_30 : tw_E sc d 123 30 [x0, x1, x2, x3] (.int v :: .ref a :: st) g mi mr Q = (tw_kd g a = 9 ∧ tw_E sc d 123 33 [x0, x1, x2, x3] st g (tw_st mi a (tw_st (mi a) 4 v)) mr Q) := tw_x_puti td_123_30 to_123 tf_9_56 rfl rfl
theorem td_123_33 : decode (tw_cd 123) 33 = .ok (.aload_n 0, 1) := by decide +kernel
theorem tz_123_33 : tw_E sc d 123 33 [some (.ref a), x1, x2, x3] st g mi mr Q = tw_E sc d 123 34 [some (.ref a), x1, x2, x3] (.ref a :: st) g mi mr Q := tw_x_aload_n td_123_33 rfl
theorem td_123_34 : decode (tw_cd 123) 34 = .ok (.iconst 0, 1) := by decide +kernel
theorem tz_123_34 : tw_E sc d 123 34 [x0, x1, x2, x3] st g mi mr Q = tw_E sc d 123 35 [x0, x1, x2, x3] (.int 0 :: st) g mi mr Q := tw_x_iconst td_123_34 (by decide)
theorem td_123_35 : decode (tw_cd 123) 35 = .ok (.putfield 60, 3) := by decide +kernel
theorem tz_123_35 : tw_E sc d 123 35 [x0, x1, x2, x3] (.int v :: .ref a :: st) g mi mr Q = (tw_kd g a = 9 ∧ tw_E sc d 123 38 [x0, x1, x2, x3] st g (tw_st mi a (tw_st (mi a) 5 v)) mr Q) := tw_x_puti td_123_35 to_123 tf_9_60 rfl rfl
theorem td_123_38 : decode (tw_cd 123) 38 = .ok (.goto 49, 3) := by decide +kernel
theorem tz_123_38 : tw_E sc d 123 38 [x0, x1, x2, x3] st g mi mr Q = tw_E sc d 123 87 [x0, x1, x2, x3] st g mi mr Q := tw_x_goto td_123_38 (by decide)
theorem td_123_41 : decode (tw_cd 123) 41 = .ok (.iload_n 2, 1) := by decide +kernel
theorem tz_123_41 : tw_E sc d 123 41 [x0, x1, some (.int v), x3] st g mi mr Q = tw_E sc d 123 42 [x0, x1, some (.int v), x3] (.int v :: st) g mi mr Q := tw_x_iload_n td_123_41 rfl
theorem td_123_42 : decode (tw_cd 123) 42 = .ok (.ifCond .ne 45, 3) := by decide +kernel
theorem tz_123_42 : tw_E sc d 123 42 [x0, x1, x2, x3] (.int v :: st) g mi mr Q = if ¬ v = 0 then tw_E sc d 123 87 [x0, x1, x2, x3] st g mi mr Q else tw_E sc d 123 45 [x0, x1, x2, x3] st g mi mr Q := tw_x_if_ne td_123_42 (by decide)
theorem td_123_45 : decode (tw_cd 123) 45 = .ok (.iload_n 3, 1) := by decide +kernel
theorem tz_123_45 : tw_E sc d 123 45 [x0, x1, x2, some (.int v)] st g mi mr Q = tw_E sc d 123 46 [x0, x1, x2, some (.int v)] (.int v :: st) g mi mr Q := tw_x_iload_n td_123_45 rfl
theorem td_123_46 : decode (tw_cd 123) 46 = .ok (.iconst 1, 1) := by decide +kernel
theorem tz_123_46 : tw_E sc d 123 46 [x0, x1, x2, x3] st g mi mr Q = tw_E sc d 123 47 [x0, x1, x2, x3] (.int 1 :: st) g mi mr Q := tw_x_iconst td_123_46 (by decide)
theorem td_123_47 : decode (tw_cd 123) 47 = .ok (.if_icmp .ne 40, 3) := by decide +kernel
theorem tz_123_47 : tw_E sc d 123 47 [x0, x1, x2, x3] (.int w :: .int v :: st) g mi mr Q = if ¬ v = w then tw_E sc d 123 87 [x0, x1, x2, x3] st g mi mr Q else tw_E sc d 123 50 [x0, x1, x2, x3] st g mi mr Q := tw_x_ic_ne td_123_47 (by decide)
theorem td_123_50 : decode (tw_cd 123) 50 = .ok (.aload_n 0, 1) := by decide +kernel
theorem tz_123_50 : tw_E sc d 123 50 [some (.ref a), x1, x2, x3] st g mi mr Q = tw_E sc d 123 51 [some (.ref a), x1, x2, x3] (.ref a :: st) g mi mr Q := tw_x_aload_n td_123_50 rfl
theorem td_123_51 : decode (tw_cd 123) 51 = .ok (.getfield 24, 3) := by decide +kernel
theorem tz_123_51 : tw_E sc d 123 51 [x0, x1, x2, x3] (.ref a :: st) g mi mr Q = (tw_kd g a = 9 ∧ tw_E sc d 123 54 [x0, x1, x2, x3] (.int (mi a 2) :: st) g mi mr Q) := tw_x_geti td_123_51 to_123 tf_9_24 (trf_9_2)
theorem td_123_54 : decode (tw_cd 123) 54 = .ok (.ifCond .eq 33, 3) := by decide +kernel
theorem tz_123_54 : tw_E sc d 123 54 [x0, x1, x2, x3] (.int v :: st) g mi mr Q = if v = 0 then tw_E sc d 123 87 [x0, x1, x2, x3] st g mi mr Q else tw_E sc d 123 57 [x0, x1, x2, x3] st g mi mr Q := tw_x_if_eq td_123_54 (by decide)
theorem td_123_57 : decode (tw_cd 123) 57 = .ok (.aload_n 0, 1) := by decide +kernel
theorem tz_123_57 : tw_E sc d 123 57 [some (.ref a), x1, x2, x3] st g mi mr Q = tw_E sc d 123 58 [some (.ref a), x1, x2, x3] (.ref a :: st) g mi mr Q := tw_x_aload_n td_123_57 rfl
theorem td_123_58 : decode (tw_cd 123) 58 = .ok (.getfield 56, 3) := by decide +kernel
theorem tz_123_58 : tw_E sc d 123 58 [x0, x1, x2, x3] (.ref a :: st) g mi mr Q = (tw_kd g a = 9 ∧ tw_E sc d 123 61 [x0, x1, x2, x3] (.int (mi a 4) :: st) g mi mr Q) := tw_x_geti td_123_58 to_123 tf_9_56 (trf_9_4)
theorem td_123_61 : decode (tw_cd 123) 61 = .ok (.ifCond .le 12, 3) := by decide +kernel
theorem tz_123_61 : tw_E sc d 123 61 [x0, x1, x2, x3] (.int v :: st) g mi mr Q = if v ≤ 0 then tw_E sc d 123 73 [x0, x1, x2, x3] st g mi mr Q else tw_E sc d 123 64 [x0, x1, x2, x3] st g mi mr Q := tw_x_if_le td_123_61 (by decide)
theorem td_123_64 : decode (tw_cd 123) 64 = .ok (.aload_n 0, 1) := by decide +kernel
theorem tz_123_64 : tw_E sc d 123 64 [some (.ref a), x1, x2, x3] st g mi mr Q = tw_E sc d 123 65 [some (.ref a), x1, x2, x3] (.ref a :: st) g mi mr Q := tw_x_aload_n td_123_64 rfl
theorem td_123_65 : decode (tw_cd 123) 65 = .ok (.getfield 15, 3) := by decide +kernel
theorem tz_123_65 : tw_E sc d 123 65 [x0, x1, x2, x3] (.ref a :: st) g mi mr Q = (tw_kd g a = 9 ∧ tw_E sc d 123 68 [x0, x1, x2, x3] (va_rf (mr a 1) :: st) g mi mr Q) := tw_x_getr td_123_65 to_123 tf_9_15 (trf_9_1)
theorem td_123_68 : decode (tw_cd 123) 68 = .ok (.iconst 3, 1) := by decide +kernel
theorem tz_123_68 : tw_E sc d 123 68 [x0, x1, x2, x3] st g mi mr Q = tw_E sc d 123 69 [x0, x1, x2, x3] (.int 3 :: st) g mi mr Q := tw_x_iconst td_123_68 (by decide)
theorem td_123_69 : decode (tw_cd 123) 69 = .ok (.iload_n 1, 1) := by decide +kernel
theorem tz_123_69 : tw_E sc d 123 69 [x0, some (.int v), x2, x3] st g mi mr Q = tw_E sc d 123 70 [x0, some (.int v), x2, x3] (.int v :: st) g mi mr Q := tw_x_iload_n td_123_69 rfl
theorem td_123_70 : decode (tw_cd 123) 70 = .ok (.invokevirtual 53, 3) := by decide +kernel
theorem tz_123_70 {a0 : Int32} {a1 : Int32} : tw_E sc (d + 1) 123 70 [x0, x1, x2, x3] ([.int a1, .int a0, .ref a]) g mi mr Q = (tw_kd g a = 7 ∧ tw_E sc d 113 0 [some (.ref a), some (.int a0), some (.int a1)] [] g mi mr (tw_K sc (d + 1) 123 73 [x0, x1, x2, x3] [] Q)) := tw_x_cv (as := [.int a0, .int a1]) (r := []) td_123_70 to_123 tc_9_53 to_113 rfl rfl rfl rfl
theorem td_123_73 : decode (tw_cd 123) 73 = .ok (.aload_n 0, 1) := by decide +kernel
theorem tz_123_73 : tw_E sc d 123 73 [some (.ref a), x1, x2, x3] st g mi mr Q = tw_E sc d 123 74 [some (.ref a), x1, x2, x3] (.ref a :: st) g mi mr Q := tw_x_aload_n td_123_73 rfl
theorem td_123_74 : decode (tw_cd 123) 74 = .ok (.getfield 15, 3) := by decide +kernel
theorem tz_123_74 : tw_E sc d 123 74 [x0, x1, x2, x3] (.ref a :: st) g mi mr Q = (tw_kd g a = 9 ∧ tw_E sc d 123 77 [x0, x1, x2, x3] (va_rf (mr a 1) :: st) g mi mr Q) := tw_x_getr td_123_74 to_123 tf_9_15 (trf_9_1)
theorem td_123_77 : decode (tw_cd 123) 77 = .ok (.iconst 2, 1) := by decide +kernel
theorem tz_123_77 : tw_E sc d 123 77 [x0, x1, x2, x3] st g mi mr Q = tw_E sc d 123 78 [x0, x1, x2, x3] (.int 2 :: st) g mi mr Q := tw_x_iconst td_123_77 (by decide)
theorem td_123_78 : decode (tw_cd 123) 78 = .ok (.iload_n 1, 1) := by decide +kernel
theorem tz_123_78 : tw_E sc d 123 78 [x0, some (.int v), x2, x3] st g mi mr Q = tw_E sc d 123 79 [x0, some (.int v), x2, x3] (.int v :: st) g mi mr Q := tw_x_iload_n td_123_78 rfl
theorem td_123_79 : decode (tw_cd 123) 79 = .ok (.invokevirtual 53, 3) := by decide +kernel
theorem tz_123_79 {a0 : Int32} {a1 : Int32} : tw_E sc (d + 1) 123 79 [x0, x1, x2, x3] ([.int a1, .int a0, .ref a]) g mi mr Q = (tw_kd g a = 7 ∧ tw_E sc d 113 0 [some (.ref a), some (.int a0), some (.int a1)] [] g mi mr (tw_K sc (d + 1) 123 82 [x0, x1, x2, x3] [] Q)) := tw_x_cv (as := [.int a0, .int a1]) (r := []) td_123_79 to_123 tc_9_53 to_113 rfl rfl rfl rfl
theorem td_123_82 : decode (tw_cd 123) 82 = .ok (.aload_n 0, 1) := by decide +kernel
theorem tz_123_82 : tw_E sc d 123 82 [some (.ref a), x1, x2, x3] st g mi mr Q = tw_E sc d 123 83 [some (.ref a), x1, x2, x3] (.ref a :: st) g mi mr Q := tw_x_aload_n td_123_82 rfl
theorem td_123_83 : decode (tw_cd 123) 83 = .ok (.iconst 0, 1) := by decide +kernel
theorem tz_123_83 : tw_E sc d 123 83 [x0, x1, x2, x3] st g mi mr Q = tw_E sc d 123 84 [x0, x1, x2, x3] (.int 0 :: st) g mi mr Q := tw_x_iconst td_123_83 (by decide)
theorem td_123_84 : decode (tw_cd 123) 84 = .ok (.putfield 24, 3) := by decide +kernel
theorem tz_123_84 : tw_E sc d 123 84 [x0, x1, x2, x3] (.int v :: .ref a :: st) g mi mr Q = ((tw_kd g a = 9 ∧ (v = 0 ∨ v = 1)) ∧ tw_E sc d 123 87 [x0, x1, x2, x3] st g (tw_st mi a (tw_st (mi a) 2 v)) mr Q) := tw_x_putz td_123_84 to_123 tf_9_24 rfl rfl
theorem td_123_87 : decode (tw_cd 123) 87 = .ok (.return_, 1) := by decide +kernel
theorem tz_123_87 : tw_E sc d 123 87 [x0, x1, x2, x3] [] g mi mr Q = Q none g mi mr := tw_x_vret td_123_87 tr_123
end tz_123
-- 124: By_clockFalls
section tz_124
variable {sc : Nat × (Nat → Int32)} {d : Nat} {x0 x1 x2 : Option Value} {st : List Value} {g : tw_G} {mi : tw_I} {mr : tw_Q} {Q : Option Value → tw_G → tw_I → tw_Q → Prop} {v w u : Int32} {a b : Nat} {j h : Int64} {s1 s2 s3 s4 : Value}
theorem td_124_0 : decode (tw_cd 124) 0 = .ok (.aload_n 0, 1) := by decide +kernel
theorem tz_124_0 : tw_E sc d 124 0 [some (.ref a), x1, x2] st g mi mr Q = tw_E sc d 124 1 [some (.ref a), x1, x2] (.ref a :: st) g mi mr Q := tw_x_aload_n td_124_0 rfl
theorem td_124_1 : decode (tw_cd 124) 1 = .ok (.getfield 24, 3) := by decide +kernel
theorem tz_124_1 : tw_E sc d 124 1 [x0, x1, x2] (.ref a :: st) g mi mr Q = (tw_kd g a = 9 ∧ tw_E sc d 124 4 [x0, x1, x2] (.int (mi a 2) :: st) g mi mr Q) := tw_x_geti td_124_1 to_124 tf_9_24 (trf_9_2)
theorem td_124_4 : decode (tw_cd 124) 4 = .ok (.ifCond .eq 10, 3) := by decide +kernel
theorem tz_124_4 : tw_E sc d 124 4 [x0, x1, x2] (.int v :: st) g mi mr Q = if v = 0 then tw_E sc d 124 14 [x0, x1, x2] st g mi mr Q else tw_E sc d 124 7 [x0, x1, x2] st g mi mr Q := tw_x_if_eq td_124_4 (by decide)
theorem td_124_7 : decode (tw_cd 124) 7 = .ok (.aload_n 0, 1) := by decide +kernel
theorem tz_124_7 : tw_E sc d 124 7 [some (.ref a), x1, x2] st g mi mr Q = tw_E sc d 124 8 [some (.ref a), x1, x2] (.ref a :: st) g mi mr Q := tw_x_aload_n td_124_7 rfl
theorem td_124_8 : decode (tw_cd 124) 8 = .ok (.getfield 50, 3) := by decide +kernel
theorem tz_124_8 : tw_E sc d 124 8 [x0, x1, x2] (.ref a :: st) g mi mr Q = (tw_kd g a = 9 ∧ tw_E sc d 124 11 [x0, x1, x2] (.int (mi a 3) :: st) g mi mr Q) := tw_x_geti td_124_8 to_124 tf_9_50 (trf_9_3)
theorem td_124_11 : decode (tw_cd 124) 11 = .ok (.ifCond .ne 4, 3) := by decide +kernel
theorem tz_124_11 : tw_E sc d 124 11 [x0, x1, x2] (.int v :: st) g mi mr Q = if ¬ v = 0 then tw_E sc d 124 15 [x0, x1, x2] st g mi mr Q else tw_E sc d 124 14 [x0, x1, x2] st g mi mr Q := tw_x_if_ne td_124_11 (by decide)
theorem td_124_14 : decode (tw_cd 124) 14 = .ok (.return_, 1) := by decide +kernel
theorem tz_124_14 : tw_E sc d 124 14 [x0, x1, x2] [] g mi mr Q = Q none g mi mr := tw_x_vret td_124_14 tr_124
theorem td_124_15 : decode (tw_cd 124) 15 = .ok (.aload_n 0, 1) := by decide +kernel
theorem tz_124_15 : tw_E sc d 124 15 [some (.ref a), x1, x2] st g mi mr Q = tw_E sc d 124 16 [some (.ref a), x1, x2] (.ref a :: st) g mi mr Q := tw_x_aload_n td_124_15 rfl
theorem td_124_16 : decode (tw_cd 124) 16 = .ok (.iconst 2, 1) := by decide +kernel
theorem tz_124_16 : tw_E sc d 124 16 [x0, x1, x2] st g mi mr Q = tw_E sc d 124 17 [x0, x1, x2] (.int 2 :: st) g mi mr Q := tw_x_iconst td_124_16 (by decide)
theorem td_124_17 : decode (tw_cd 124) 17 = .ok (.aload_n 0, 1) := by decide +kernel
theorem tz_124_17 : tw_E sc d 124 17 [some (.ref a), x1, x2] st g mi mr Q = tw_E sc d 124 18 [some (.ref a), x1, x2] (.ref a :: st) g mi mr Q := tw_x_aload_n td_124_17 rfl
theorem td_124_18 : decode (tw_cd 124) 18 = .ok (.getfield 60, 3) := by decide +kernel
theorem tz_124_18 : tw_E sc d 124 18 [x0, x1, x2] (.ref a :: st) g mi mr Q = (tw_kd g a = 9 ∧ tw_E sc d 124 21 [x0, x1, x2] (.int (mi a 5) :: st) g mi mr Q) := tw_x_geti td_124_18 to_124 tf_9_60 (trf_9_5)
theorem td_124_21 : decode (tw_cd 124) 21 = .ok (.imul, 1) := by decide +kernel
theorem tz_124_21 : tw_E sc d 124 21 [x0, x1, x2] (.int w :: .int v :: st) g mi mr Q = tw_E sc d 124 22 [x0, x1, x2] (.int (v * w) :: st) g mi mr Q := tw_x_imul td_124_21
theorem td_124_22 : decode (tw_cd 124) 22 = .ok (.iload_n 2, 1) := by decide +kernel
theorem tz_124_22 : tw_E sc d 124 22 [x0, x1, some (.int v)] st g mi mr Q = tw_E sc d 124 23 [x0, x1, some (.int v)] (.int v :: st) g mi mr Q := tw_x_iload_n td_124_22 rfl
theorem td_124_23 : decode (tw_cd 124) 23 = .ok (.iadd, 1) := by decide +kernel
theorem tz_124_23 : tw_E sc d 124 23 [x0, x1, x2] (.int w :: .int v :: st) g mi mr Q = tw_E sc d 124 24 [x0, x1, x2] (.int (v + w) :: st) g mi mr Q := tw_x_iadd td_124_23
theorem td_124_24 : decode (tw_cd 124) 24 = .ok (.putfield 60, 3) := by decide +kernel
theorem tz_124_24 : tw_E sc d 124 24 [x0, x1, x2] (.int v :: .ref a :: st) g mi mr Q = (tw_kd g a = 9 ∧ tw_E sc d 124 27 [x0, x1, x2] st g (tw_st mi a (tw_st (mi a) 5 v)) mr Q) := tw_x_puti td_124_24 to_124 tf_9_60 rfl rfl
theorem td_124_27 : decode (tw_cd 124) 27 = .ok (.aload_n 0, 1) := by decide +kernel
theorem tz_124_27 : tw_E sc d 124 27 [some (.ref a), x1, x2] st g mi mr Q = tw_E sc d 124 28 [some (.ref a), x1, x2] (.ref a :: st) g mi mr Q := tw_x_aload_n td_124_27 rfl
theorem td_124_28 : decode (tw_cd 124) 28 = .ok (.dup, 1) := by decide +kernel
theorem tz_124_28 : tw_E sc d 124 28 [x0, x1, x2] (.ref a :: st) g mi mr Q = tw_E sc d 124 29 [x0, x1, x2] (.ref a :: .ref a :: st) g mi mr Q := tw_x_dup_ref td_124_28
theorem td_124_29 : decode (tw_cd 124) 29 = .ok (.getfield 56, 3) := by decide +kernel
theorem tz_124_29 : tw_E sc d 124 29 [x0, x1, x2] (.ref a :: st) g mi mr Q = (tw_kd g a = 9 ∧ tw_E sc d 124 32 [x0, x1, x2] (.int (mi a 4) :: st) g mi mr Q) := tw_x_geti td_124_29 to_124 tf_9_56 (trf_9_4)
theorem td_124_32 : decode (tw_cd 124) 32 = .ok (.iconst 1, 1) := by decide +kernel
theorem tz_124_32 : tw_E sc d 124 32 [x0, x1, x2] st g mi mr Q = tw_E sc d 124 33 [x0, x1, x2] (.int 1 :: st) g mi mr Q := tw_x_iconst td_124_32 (by decide)
theorem td_124_33 : decode (tw_cd 124) 33 = .ok (.iadd, 1) := by decide +kernel
theorem tz_124_33 : tw_E sc d 124 33 [x0, x1, x2] (.int w :: .int v :: st) g mi mr Q = tw_E sc d 124 34 [x0, x1, x2] (.int (v + w) :: st) g mi mr Q := tw_x_iadd td_124_33
theorem td_124_34 : decode (tw_cd 124) 34 = .ok (.putfield 56, 3) := by decide +kernel
theorem tz_124_34 : tw_E sc d 124 34 [x0, x1, x2] (.int v :: .ref a :: st) g mi mr Q = (tw_kd g a = 9 ∧ tw_E sc d 124 37 [x0, x1, x2] st g (tw_st mi a (tw_st (mi a) 4 v)) mr Q) := tw_x_puti td_124_34 to_124 tf_9_56 rfl rfl
theorem td_124_37 : decode (tw_cd 124) 37 = .ok (.aload_n 0, 1) := by decide +kernel
theorem tz_124_37 : tw_E sc d 124 37 [some (.ref a), x1, x2] st g mi mr Q = tw_E sc d 124 38 [some (.ref a), x1, x2] (.ref a :: st) g mi mr Q := tw_x_aload_n td_124_37 rfl
theorem td_124_38 : decode (tw_cd 124) 38 = .ok (.getfield 56, 3) := by decide +kernel
theorem tz_124_38 : tw_E sc d 124 38 [x0, x1, x2] (.ref a :: st) g mi mr Q = (tw_kd g a = 9 ∧ tw_E sc d 124 41 [x0, x1, x2] (.int (mi a 4) :: st) g mi mr Q) := tw_x_geti td_124_38 to_124 tf_9_56 (trf_9_4)
theorem td_124_41 : decode (tw_cd 124) 41 = .ok (.bipush 8, 2) := by decide +kernel
theorem tz_124_41 : tw_E sc d 124 41 [x0, x1, x2] st g mi mr Q = tw_E sc d 124 43 [x0, x1, x2] (.int 8 :: st) g mi mr Q := tw_x_bipush td_124_41 (by decide)
theorem td_124_43 : decode (tw_cd 124) 43 = .ok (.if_icmp .ne 25, 3) := by decide +kernel
theorem tz_124_43 : tw_E sc d 124 43 [x0, x1, x2] (.int w :: .int v :: st) g mi mr Q = if ¬ v = w then tw_E sc d 124 68 [x0, x1, x2] st g mi mr Q else tw_E sc d 124 46 [x0, x1, x2] st g mi mr Q := tw_x_ic_ne td_124_43 (by decide)
theorem td_124_46 : decode (tw_cd 124) 46 = .ok (.aload_n 0, 1) := by decide +kernel
theorem tz_124_46 : tw_E sc d 124 46 [some (.ref a), x1, x2] st g mi mr Q = tw_E sc d 124 47 [some (.ref a), x1, x2] (.ref a :: st) g mi mr Q := tw_x_aload_n td_124_46 rfl
theorem td_124_47 : decode (tw_cd 124) 47 = .ok (.getfield 15, 3) := by decide +kernel
theorem tz_124_47 : tw_E sc d 124 47 [x0, x1, x2] (.ref a :: st) g mi mr Q = (tw_kd g a = 9 ∧ tw_E sc d 124 50 [x0, x1, x2] (va_rf (mr a 1) :: st) g mi mr Q) := tw_x_getr td_124_47 to_124 tf_9_15 (trf_9_1)
theorem td_124_50 : decode (tw_cd 124) 50 = .ok (.aload_n 0, 1) := by decide +kernel
theorem tz_124_50 : tw_E sc d 124 50 [some (.ref a), x1, x2] st g mi mr Q = tw_E sc d 124 51 [some (.ref a), x1, x2] (.ref a :: st) g mi mr Q := tw_x_aload_n td_124_50 rfl
theorem td_124_51 : decode (tw_cd 124) 51 = .ok (.getfield 60, 3) := by decide +kernel
theorem tz_124_51 : tw_E sc d 124 51 [x0, x1, x2] (.ref a :: st) g mi mr Q = (tw_kd g a = 9 ∧ tw_E sc d 124 54 [x0, x1, x2] (.int (mi a 5) :: st) g mi mr Q) := tw_x_geti td_124_51 to_124 tf_9_60 (trf_9_5)
theorem td_124_54 : decode (tw_cd 124) 54 = .ok (.iload_n 1, 1) := by decide +kernel
theorem tz_124_54 : tw_E sc d 124 54 [x0, some (.int v), x2] st g mi mr Q = tw_E sc d 124 55 [x0, some (.int v), x2] (.int v :: st) g mi mr Q := tw_x_iload_n td_124_54 rfl
theorem td_124_55 : decode (tw_cd 124) 55 = .ok (.invokevirtual 63, 3) := by decide +kernel
theorem tz_124_55 {a0 : Int32} {a1 : Int32} : tw_E sc (d + 1) 124 55 [x0, x1, x2] ([.int a1, .int a0, .ref a]) g mi mr Q = (tw_kd g a = 7 ∧ tw_E sc d 112 0 [some (.ref a), some (.int a0), some (.int a1)] [] g mi mr (tw_K sc (d + 1) 124 58 [x0, x1, x2] [] Q)) := tw_x_cv (as := [.int a0, .int a1]) (r := []) td_124_55 to_124 tc_9_63 to_112 rfl rfl rfl rfl
theorem td_124_58 : decode (tw_cd 124) 58 = .ok (.aload_n 0, 1) := by decide +kernel
theorem tz_124_58 : tw_E sc d 124 58 [some (.ref a), x1, x2] st g mi mr Q = tw_E sc d 124 59 [some (.ref a), x1, x2] (.ref a :: st) g mi mr Q := tw_x_aload_n td_124_58 rfl
theorem td_124_59 : decode (tw_cd 124) 59 = .ok (.iconst 0, 1) := by decide +kernel
theorem tz_124_59 : tw_E sc d 124 59 [x0, x1, x2] st g mi mr Q = tw_E sc d 124 60 [x0, x1, x2] (.int 0 :: st) g mi mr Q := tw_x_iconst td_124_59 (by decide)
theorem td_124_60 : decode (tw_cd 124) 60 = .ok (.putfield 56, 3) := by decide +kernel
theorem tz_124_60 : tw_E sc d 124 60 [x0, x1, x2] (.int v :: .ref a :: st) g mi mr Q = (tw_kd g a = 9 ∧ tw_E sc d 124 63 [x0, x1, x2] st g (tw_st mi a (tw_st (mi a) 4 v)) mr Q) := tw_x_puti td_124_60 to_124 tf_9_56 rfl rfl
theorem td_124_63 : decode (tw_cd 124) 63 = .ok (.aload_n 0, 1) := by decide +kernel
theorem tz_124_63 : tw_E sc d 124 63 [some (.ref a), x1, x2] st g mi mr Q = tw_E sc d 124 64 [some (.ref a), x1, x2] (.ref a :: st) g mi mr Q := tw_x_aload_n td_124_63 rfl
theorem td_124_64 : decode (tw_cd 124) 64 = .ok (.iconst 0, 1) := by decide +kernel
theorem tz_124_64 : tw_E sc d 124 64 [x0, x1, x2] st g mi mr Q = tw_E sc d 124 65 [x0, x1, x2] (.int 0 :: st) g mi mr Q := tw_x_iconst td_124_64 (by decide)
theorem td_124_65 : decode (tw_cd 124) 65 = .ok (.putfield 60, 3) := by decide +kernel
theorem tz_124_65 : tw_E sc d 124 65 [x0, x1, x2] (.int v :: .ref a :: st) g mi mr Q = (tw_kd g a = 9 ∧ tw_E sc d 124 68 [x0, x1, x2] st g (tw_st mi a (tw_st (mi a) 5 v)) mr Q) := tw_x_puti td_124_65 to_124 tf_9_60 rfl rfl
theorem td_124_68 : decode (tw_cd 124) 68 = .ok (.return_, 1) := by decide +kernel
theorem tz_124_68 : tw_E sc d 124 68 [x0, x1, x2] [] g mi mr Q = Q none g mi mr := tw_x_vret td_124_68 tr_124
end tz_124
-- 125: Mo_init
section tz_125
variable {sc : Nat × (Nat → Int32)} {d : Nat} {x0 : Option Value} {st : List Value} {g : tw_G} {mi : tw_I} {mr : tw_Q} {Q : Option Value → tw_G → tw_I → tw_Q → Prop} {v w u : Int32} {a b : Nat} {j h : Int64} {s1 s2 s3 s4 : Value}
theorem td_125_0 : decode (tw_cd 125) 0 = .ok (.aload_n 0, 1) := by decide +kernel
theorem tz_125_0 : tw_E sc d 125 0 [some (.ref a)] st g mi mr Q = tw_E sc d 125 1 [some (.ref a)] (.ref a :: st) g mi mr Q := tw_x_aload_n td_125_0 rfl
theorem td_125_1 : decode (tw_cd 125) 1 = .ok (.invokespecial 1, 3) := by decide +kernel
theorem tz_125_1 : tw_E sc (d + 1) 125 1 [x0] (.ref a :: []) g mi mr Q = tw_E sc (d + 1) 125 4 [x0] [] g mi mr Q := tw_x_obj td_125_1 to_125 toi_10 (by simp)
theorem td_125_4 : decode (tw_cd 125) 4 = .ok (.aload_n 0, 1) := by decide +kernel
theorem tz_125_4 : tw_E sc d 125 4 [some (.ref a)] st g mi mr Q = tw_E sc d 125 5 [some (.ref a)] (.ref a :: st) g mi mr Q := tw_x_aload_n td_125_4 rfl
theorem td_125_5 : decode (tw_cd 125) 5 = .ok (.bipush 60, 2) := by decide +kernel
theorem tz_125_5 : tw_E sc d 125 5 [x0] st g mi mr Q = tw_E sc d 125 7 [x0] (.int 60 :: st) g mi mr Q := tw_x_bipush td_125_5 (by decide)
theorem td_125_7 : decode (tw_cd 125) 7 = .ok (.newarray .int, 2) := by decide +kernel
theorem tz_125_7 : tw_E sc d 125 7 [x0] (.int 60 :: st) g mi mr Q = tw_E sc d 125 9 [x0] (.ref g.1 :: st) (tw_gn g 20 60 60) (tw_st mi g.1 (fun _ => 0)) (tw_st mr g.1 (fun _ => none)) Q := tw_x_newi td_125_7 (by decide)
theorem td_125_9 : decode (tw_cd 125) 9 = .ok (.putfield 7, 3) := by decide +kernel
theorem tz_125_9 : tw_E sc d 125 9 [x0] (.ref b :: .ref a :: st) g mi mr Q = (tw_kd g a = 10 ∧ tw_E sc d 125 12 [x0] st g mi (tw_st mr a (tw_st (mr a) 1 (some b))) Q) := tw_x_putr td_125_9 to_125 tf_10_7 (Or.inr ⟨rfl, rfl⟩) (trf_10_1)
theorem td_125_12 : decode (tw_cd 125) 12 = .ok (.aload_n 0, 1) := by decide +kernel
theorem tz_125_12 : tw_E sc d 125 12 [some (.ref a)] st g mi mr Q = tw_E sc d 125 13 [some (.ref a)] (.ref a :: st) g mi mr Q := tw_x_aload_n td_125_12 rfl
theorem td_125_13 : decode (tw_cd 125) 13 = .ok (.bipush 64, 2) := by decide +kernel
theorem tz_125_13 : tw_E sc d 125 13 [x0] st g mi mr Q = tw_E sc d 125 15 [x0] (.int 64 :: st) g mi mr Q := tw_x_bipush td_125_13 (by decide)
theorem td_125_15 : decode (tw_cd 125) 15 = .ok (.newarray .int, 2) := by decide +kernel
theorem tz_125_15 : tw_E sc d 125 15 [x0] (.int 64 :: st) g mi mr Q = tw_E sc d 125 17 [x0] (.ref g.1 :: st) (tw_gn g 20 64 64) (tw_st mi g.1 (fun _ => 0)) (tw_st mr g.1 (fun _ => none)) Q := tw_x_newi td_125_15 (by decide)
theorem td_125_17 : decode (tw_cd 125) 17 = .ok (.putfield 13, 3) := by decide +kernel
theorem tz_125_17 : tw_E sc d 125 17 [x0] (.ref b :: .ref a :: st) g mi mr Q = (tw_kd g a = 10 ∧ tw_E sc d 125 20 [x0] st g mi (tw_st mr a (tw_st (mr a) 6 (some b))) Q) := tw_x_putr td_125_17 to_125 tf_10_13 (Or.inr ⟨rfl, rfl⟩) (trf_10_6)
theorem td_125_20 : decode (tw_cd 125) 20 = .ok (.aload_n 0, 1) := by decide +kernel
theorem tz_125_20 : tw_E sc d 125 20 [some (.ref a)] st g mi mr Q = tw_E sc d 125 21 [some (.ref a)] (.ref a :: st) g mi mr Q := tw_x_aload_n td_125_20 rfl
theorem td_125_21 : decode (tw_cd 125) 21 = .ok (.bipush 64, 2) := by decide +kernel
theorem tz_125_21 : tw_E sc d 125 21 [x0] st g mi mr Q = tw_E sc d 125 23 [x0] (.int 64 :: st) g mi mr Q := tw_x_bipush td_125_21 (by decide)
theorem td_125_23 : decode (tw_cd 125) 23 = .ok (.newarray .int, 2) := by decide +kernel
theorem tz_125_23 : tw_E sc d 125 23 [x0] (.int 64 :: st) g mi mr Q = tw_E sc d 125 25 [x0] (.ref g.1 :: st) (tw_gn g 20 64 64) (tw_st mi g.1 (fun _ => 0)) (tw_st mr g.1 (fun _ => none)) Q := tw_x_newi td_125_23 (by decide)
theorem td_125_25 : decode (tw_cd 125) 25 = .ok (.putfield 16, 3) := by decide +kernel
theorem tz_125_25 : tw_E sc d 125 25 [x0] (.ref b :: .ref a :: st) g mi mr Q = (tw_kd g a = 10 ∧ tw_E sc d 125 28 [x0] st g mi (tw_st mr a (tw_st (mr a) 7 (some b))) Q) := tw_x_putr td_125_25 to_125 tf_10_16 (Or.inr ⟨rfl, rfl⟩) (trf_10_7)
theorem td_125_28 : decode (tw_cd 125) 28 = .ok (.aload_n 0, 1) := by decide +kernel
theorem tz_125_28 : tw_E sc d 125 28 [some (.ref a)] st g mi mr Q = tw_E sc d 125 29 [some (.ref a)] (.ref a :: st) g mi mr Q := tw_x_aload_n td_125_28 rfl
theorem td_125_29 : decode (tw_cd 125) 29 = .ok (.bipush 64, 2) := by decide +kernel
theorem tz_125_29 : tw_E sc d 125 29 [x0] st g mi mr Q = tw_E sc d 125 31 [x0] (.int 64 :: st) g mi mr Q := tw_x_bipush td_125_29 (by decide)
theorem td_125_31 : decode (tw_cd 125) 31 = .ok (.newarray .int, 2) := by decide +kernel
theorem tz_125_31 : tw_E sc d 125 31 [x0] (.int 64 :: st) g mi mr Q = tw_E sc d 125 33 [x0] (.ref g.1 :: st) (tw_gn g 20 64 64) (tw_st mi g.1 (fun _ => 0)) (tw_st mr g.1 (fun _ => none)) Q := tw_x_newi td_125_31 (by decide)
theorem td_125_33 : decode (tw_cd 125) 33 = .ok (.putfield 19, 3) := by decide +kernel
theorem tz_125_33 : tw_E sc d 125 33 [x0] (.ref b :: .ref a :: st) g mi mr Q = (tw_kd g a = 10 ∧ tw_E sc d 125 36 [x0] st g mi (tw_st mr a (tw_st (mr a) 8 (some b))) Q) := tw_x_putr td_125_33 to_125 tf_10_19 (Or.inr ⟨rfl, rfl⟩) (trf_10_8)
theorem td_125_36 : decode (tw_cd 125) 36 = .ok (.aload_n 0, 1) := by decide +kernel
theorem tz_125_36 : tw_E sc d 125 36 [some (.ref a)] st g mi mr Q = tw_E sc d 125 37 [some (.ref a)] (.ref a :: st) g mi mr Q := tw_x_aload_n td_125_36 rfl
theorem td_125_37 : decode (tw_cd 125) 37 = .ok (.bipush 64, 2) := by decide +kernel
theorem tz_125_37 : tw_E sc d 125 37 [x0] st g mi mr Q = tw_E sc d 125 39 [x0] (.int 64 :: st) g mi mr Q := tw_x_bipush td_125_37 (by decide)
theorem td_125_39 : decode (tw_cd 125) 39 = .ok (.newarray .int, 2) := by decide +kernel
theorem tz_125_39 : tw_E sc d 125 39 [x0] (.int 64 :: st) g mi mr Q = tw_E sc d 125 41 [x0] (.ref g.1 :: st) (tw_gn g 20 64 64) (tw_st mi g.1 (fun _ => 0)) (tw_st mr g.1 (fun _ => none)) Q := tw_x_newi td_125_39 (by decide)
theorem td_125_41 : decode (tw_cd 125) 41 = .ok (.putfield 22, 3) := by decide +kernel
theorem tz_125_41 : tw_E sc d 125 41 [x0] (.ref b :: .ref a :: st) g mi mr Q = (tw_kd g a = 10 ∧ tw_E sc d 125 44 [x0] st g mi (tw_st mr a (tw_st (mr a) 9 (some b))) Q) := tw_x_putr td_125_41 to_125 tf_10_22 (Or.inr ⟨rfl, rfl⟩) (trf_10_9)
theorem td_125_44 : decode (tw_cd 125) 44 = .ok (.aload_n 0, 1) := by decide +kernel
theorem tz_125_44 : tw_E sc d 125 44 [some (.ref a)] st g mi mr Q = tw_E sc d 125 45 [some (.ref a)] (.ref a :: st) g mi mr Q := tw_x_aload_n td_125_44 rfl
theorem td_125_45 : decode (tw_cd 125) 45 = .ok (.bipush 64, 2) := by decide +kernel
theorem tz_125_45 : tw_E sc d 125 45 [x0] st g mi mr Q = tw_E sc d 125 47 [x0] (.int 64 :: st) g mi mr Q := tw_x_bipush td_125_45 (by decide)
theorem td_125_47 : decode (tw_cd 125) 47 = .ok (.newarray .int, 2) := by decide +kernel
theorem tz_125_47 : tw_E sc d 125 47 [x0] (.int 64 :: st) g mi mr Q = tw_E sc d 125 49 [x0] (.ref g.1 :: st) (tw_gn g 20 64 64) (tw_st mi g.1 (fun _ => 0)) (tw_st mr g.1 (fun _ => none)) Q := tw_x_newi td_125_47 (by decide)
theorem td_125_49 : decode (tw_cd 125) 49 = .ok (.putfield 25, 3) := by decide +kernel
theorem tz_125_49 : tw_E sc d 125 49 [x0] (.ref b :: .ref a :: st) g mi mr Q = (tw_kd g a = 10 ∧ tw_E sc d 125 52 [x0] st g mi (tw_st mr a (tw_st (mr a) 10 (some b))) Q) := tw_x_putr td_125_49 to_125 tf_10_25 (Or.inr ⟨rfl, rfl⟩) (trf_10_10)
theorem td_125_52 : decode (tw_cd 125) 52 = .ok (.aload_n 0, 1) := by decide +kernel
theorem tz_125_52 : tw_E sc d 125 52 [some (.ref a)] st g mi mr Q = tw_E sc d 125 53 [some (.ref a)] (.ref a :: st) g mi mr Q := tw_x_aload_n td_125_52 rfl
theorem td_125_53 : decode (tw_cd 125) 53 = .ok (.bipush 64, 2) := by decide +kernel
theorem tz_125_53 : tw_E sc d 125 53 [x0] st g mi mr Q = tw_E sc d 125 55 [x0] (.int 64 :: st) g mi mr Q := tw_x_bipush td_125_53 (by decide)
theorem td_125_55 : decode (tw_cd 125) 55 = .ok (.newarray .int, 2) := by decide +kernel
theorem tz_125_55 : tw_E sc d 125 55 [x0] (.int 64 :: st) g mi mr Q = tw_E sc d 125 57 [x0] (.ref g.1 :: st) (tw_gn g 20 64 64) (tw_st mi g.1 (fun _ => 0)) (tw_st mr g.1 (fun _ => none)) Q := tw_x_newi td_125_55 (by decide)
theorem td_125_57 : decode (tw_cd 125) 57 = .ok (.putfield 28, 3) := by decide +kernel
theorem tz_125_57 : tw_E sc d 125 57 [x0] (.ref b :: .ref a :: st) g mi mr Q = (tw_kd g a = 10 ∧ tw_E sc d 125 60 [x0] st g mi (tw_st mr a (tw_st (mr a) 12 (some b))) Q) := tw_x_putr td_125_57 to_125 tf_10_28 (Or.inr ⟨rfl, rfl⟩) (trf_10_12)
theorem td_125_60 : decode (tw_cd 125) 60 = .ok (.aload_n 0, 1) := by decide +kernel
theorem tz_125_60 : tw_E sc d 125 60 [some (.ref a)] st g mi mr Q = tw_E sc d 125 61 [some (.ref a)] (.ref a :: st) g mi mr Q := tw_x_aload_n td_125_60 rfl
theorem td_125_61 : decode (tw_cd 125) 61 = .ok (.bipush 64, 2) := by decide +kernel
theorem tz_125_61 : tw_E sc d 125 61 [x0] st g mi mr Q = tw_E sc d 125 63 [x0] (.int 64 :: st) g mi mr Q := tw_x_bipush td_125_61 (by decide)
theorem td_125_63 : decode (tw_cd 125) 63 = .ok (.newarray .int, 2) := by decide +kernel
theorem tz_125_63 : tw_E sc d 125 63 [x0] (.int 64 :: st) g mi mr Q = tw_E sc d 125 65 [x0] (.ref g.1 :: st) (tw_gn g 20 64 64) (tw_st mi g.1 (fun _ => 0)) (tw_st mr g.1 (fun _ => none)) Q := tw_x_newi td_125_63 (by decide)
theorem td_125_65 : decode (tw_cd 125) 65 = .ok (.putfield 31, 3) := by decide +kernel
theorem tz_125_65 : tw_E sc d 125 65 [x0] (.ref b :: .ref a :: st) g mi mr Q = (tw_kd g a = 10 ∧ tw_E sc d 125 68 [x0] st g mi (tw_st mr a (tw_st (mr a) 13 (some b))) Q) := tw_x_putr td_125_65 to_125 tf_10_31 (Or.inr ⟨rfl, rfl⟩) (trf_10_13)
theorem td_125_68 : decode (tw_cd 125) 68 = .ok (.aload_n 0, 1) := by decide +kernel
theorem tz_125_68 : tw_E sc d 125 68 [some (.ref a)] st g mi mr Q = tw_E sc d 125 69 [some (.ref a)] (.ref a :: st) g mi mr Q := tw_x_aload_n td_125_68 rfl
theorem td_125_69 : decode (tw_cd 125) 69 = .ok (.bipush 64, 2) := by decide +kernel
theorem tz_125_69 : tw_E sc d 125 69 [x0] st g mi mr Q = tw_E sc d 125 71 [x0] (.int 64 :: st) g mi mr Q := tw_x_bipush td_125_69 (by decide)
theorem td_125_71 : decode (tw_cd 125) 71 = .ok (.newarray .int, 2) := by decide +kernel
theorem tz_125_71 : tw_E sc d 125 71 [x0] (.int 64 :: st) g mi mr Q = tw_E sc d 125 73 [x0] (.ref g.1 :: st) (tw_gn g 20 64 64) (tw_st mi g.1 (fun _ => 0)) (tw_st mr g.1 (fun _ => none)) Q := tw_x_newi td_125_71 (by decide)
theorem td_125_73 : decode (tw_cd 125) 73 = .ok (.putfield 34, 3) := by decide +kernel
theorem tz_125_73 : tw_E sc d 125 73 [x0] (.ref b :: .ref a :: st) g mi mr Q = (tw_kd g a = 10 ∧ tw_E sc d 125 76 [x0] st g mi (tw_st mr a (tw_st (mr a) 14 (some b))) Q) := tw_x_putr td_125_73 to_125 tf_10_34 (Or.inr ⟨rfl, rfl⟩) (trf_10_14)
theorem td_125_76 : decode (tw_cd 125) 76 = .ok (.aload_n 0, 1) := by decide +kernel
theorem tz_125_76 : tw_E sc d 125 76 [some (.ref a)] st g mi mr Q = tw_E sc d 125 77 [some (.ref a)] (.ref a :: st) g mi mr Q := tw_x_aload_n td_125_76 rfl
theorem td_125_77 : decode (tw_cd 125) 77 = .ok (.bipush 64, 2) := by decide +kernel
theorem tz_125_77 : tw_E sc d 125 77 [x0] st g mi mr Q = tw_E sc d 125 79 [x0] (.int 64 :: st) g mi mr Q := tw_x_bipush td_125_77 (by decide)
theorem td_125_79 : decode (tw_cd 125) 79 = .ok (.newarray .int, 2) := by decide +kernel
theorem tz_125_79 : tw_E sc d 125 79 [x0] (.int 64 :: st) g mi mr Q = tw_E sc d 125 81 [x0] (.ref g.1 :: st) (tw_gn g 20 64 64) (tw_st mi g.1 (fun _ => 0)) (tw_st mr g.1 (fun _ => none)) Q := tw_x_newi td_125_79 (by decide)
theorem td_125_81 : decode (tw_cd 125) 81 = .ok (.putfield 37, 3) := by decide +kernel
theorem tz_125_81 : tw_E sc d 125 81 [x0] (.ref b :: .ref a :: st) g mi mr Q = (tw_kd g a = 10 ∧ tw_E sc d 125 84 [x0] st g mi (tw_st mr a (tw_st (mr a) 15 (some b))) Q) := tw_x_putr td_125_81 to_125 tf_10_37 (Or.inr ⟨rfl, rfl⟩) (trf_10_15)
theorem td_125_84 : decode (tw_cd 125) 84 = .ok (.aload_n 0, 1) := by decide +kernel
theorem tz_125_84 : tw_E sc d 125 84 [some (.ref a)] st g mi mr Q = tw_E sc d 125 85 [some (.ref a)] (.ref a :: st) g mi mr Q := tw_x_aload_n td_125_84 rfl
theorem td_125_85 : decode (tw_cd 125) 85 = .ok (.bipush 64, 2) := by decide +kernel
theorem tz_125_85 : tw_E sc d 125 85 [x0] st g mi mr Q = tw_E sc d 125 87 [x0] (.int 64 :: st) g mi mr Q := tw_x_bipush td_125_85 (by decide)
theorem td_125_87 : decode (tw_cd 125) 87 = .ok (.newarray .int, 2) := by decide +kernel
theorem tz_125_87 : tw_E sc d 125 87 [x0] (.int 64 :: st) g mi mr Q = tw_E sc d 125 89 [x0] (.ref g.1 :: st) (tw_gn g 20 64 64) (tw_st mi g.1 (fun _ => 0)) (tw_st mr g.1 (fun _ => none)) Q := tw_x_newi td_125_87 (by decide)
theorem td_125_89 : decode (tw_cd 125) 89 = .ok (.putfield 40, 3) := by decide +kernel
theorem tz_125_89 : tw_E sc d 125 89 [x0] (.ref b :: .ref a :: st) g mi mr Q = (tw_kd g a = 10 ∧ tw_E sc d 125 92 [x0] st g mi (tw_st mr a (tw_st (mr a) 16 (some b))) Q) := tw_x_putr td_125_89 to_125 tf_10_40 (Or.inr ⟨rfl, rfl⟩) (trf_10_16)
theorem td_125_92 : decode (tw_cd 125) 92 = .ok (.aload_n 0, 1) := by decide +kernel
theorem tz_125_92 : tw_E sc d 125 92 [some (.ref a)] st g mi mr Q = tw_E sc d 125 93 [some (.ref a)] (.ref a :: st) g mi mr Q := tw_x_aload_n td_125_92 rfl
theorem td_125_93 : decode (tw_cd 125) 93 = .ok (.bipush 64, 2) := by decide +kernel
theorem tz_125_93 : tw_E sc d 125 93 [x0] st g mi mr Q = tw_E sc d 125 95 [x0] (.int 64 :: st) g mi mr Q := tw_x_bipush td_125_93 (by decide)
theorem td_125_95 : decode (tw_cd 125) 95 = .ok (.newarray .boolean, 2) := by decide +kernel
theorem tz_125_95 : tw_E sc d 125 95 [x0] (.int 64 :: st) g mi mr Q = tw_E sc d 125 97 [x0] (.ref g.1 :: st) (tw_gn g 21 64 64) (tw_st mi g.1 (fun _ => 0)) (tw_st mr g.1 (fun _ => none)) Q := tw_x_newz td_125_95 (by decide)
theorem td_125_97 : decode (tw_cd 125) 97 = .ok (.putfield 43, 3) := by decide +kernel
theorem tz_125_97 : tw_E sc d 125 97 [x0] (.ref b :: .ref a :: st) g mi mr Q = (tw_kd g a = 10 ∧ tw_E sc d 125 100 [x0] st g mi (tw_st mr a (tw_st (mr a) 17 (some b))) Q) := tw_x_putr td_125_97 to_125 tf_10_43 (Or.inr ⟨rfl, rfl⟩) (trf_10_17)
theorem td_125_100 : decode (tw_cd 125) 100 = .ok (.aload_n 0, 1) := by decide +kernel
theorem tz_125_100 : tw_E sc d 125 100 [some (.ref a)] st g mi mr Q = tw_E sc d 125 101 [some (.ref a)] (.ref a :: st) g mi mr Q := tw_x_aload_n td_125_100 rfl
theorem td_125_101 : decode (tw_cd 125) 101 = .ok (.bipush 64, 2) := by decide +kernel
theorem tz_125_101 : tw_E sc d 125 101 [x0] st g mi mr Q = tw_E sc d 125 103 [x0] (.int 64 :: st) g mi mr Q := tw_x_bipush td_125_101 (by decide)
theorem td_125_103 : decode (tw_cd 125) 103 = .ok (.newarray .int, 2) := by decide +kernel
theorem tz_125_103 : tw_E sc d 125 103 [x0] (.int 64 :: st) g mi mr Q = tw_E sc d 125 105 [x0] (.ref g.1 :: st) (tw_gn g 20 64 64) (tw_st mi g.1 (fun _ => 0)) (tw_st mr g.1 (fun _ => none)) Q := tw_x_newi td_125_103 (by decide)
theorem td_125_105 : decode (tw_cd 125) 105 = .ok (.putfield 47, 3) := by decide +kernel
theorem tz_125_105 : tw_E sc d 125 105 [x0] (.ref b :: .ref a :: st) g mi mr Q = (tw_kd g a = 10 ∧ tw_E sc d 125 108 [x0] st g mi (tw_st mr a (tw_st (mr a) 18 (some b))) Q) := tw_x_putr td_125_105 to_125 tf_10_47 (Or.inr ⟨rfl, rfl⟩) (trf_10_18)
theorem td_125_108 : decode (tw_cd 125) 108 = .ok (.aload_n 0, 1) := by decide +kernel
theorem tz_125_108 : tw_E sc d 125 108 [some (.ref a)] st g mi mr Q = tw_E sc d 125 109 [some (.ref a)] (.ref a :: st) g mi mr Q := tw_x_aload_n td_125_108 rfl
theorem td_125_109 : decode (tw_cd 125) 109 = .ok (.bipush 64, 2) := by decide +kernel
theorem tz_125_109 : tw_E sc d 125 109 [x0] st g mi mr Q = tw_E sc d 125 111 [x0] (.int 64 :: st) g mi mr Q := tw_x_bipush td_125_109 (by decide)
theorem td_125_111 : decode (tw_cd 125) 111 = .ok (.newarray .int, 2) := by decide +kernel
theorem tz_125_111 : tw_E sc d 125 111 [x0] (.int 64 :: st) g mi mr Q = tw_E sc d 125 113 [x0] (.ref g.1 :: st) (tw_gn g 20 64 64) (tw_st mi g.1 (fun _ => 0)) (tw_st mr g.1 (fun _ => none)) Q := tw_x_newi td_125_111 (by decide)
theorem td_125_113 : decode (tw_cd 125) 113 = .ok (.putfield 50, 3) := by decide +kernel
theorem tz_125_113 : tw_E sc d 125 113 [x0] (.ref b :: .ref a :: st) g mi mr Q = (tw_kd g a = 10 ∧ tw_E sc d 125 116 [x0] st g mi (tw_st mr a (tw_st (mr a) 19 (some b))) Q) := tw_x_putr td_125_113 to_125 tf_10_50 (Or.inr ⟨rfl, rfl⟩) (trf_10_19)
theorem td_125_116 : decode (tw_cd 125) 116 = .ok (.aload_n 0, 1) := by decide +kernel
theorem tz_125_116 : tw_E sc d 125 116 [some (.ref a)] st g mi mr Q = tw_E sc d 125 117 [some (.ref a)] (.ref a :: st) g mi mr Q := tw_x_aload_n td_125_116 rfl
theorem td_125_117 : decode (tw_cd 125) 117 = .ok (.sipush 4000, 3) := by decide +kernel
theorem tz_125_117 : tw_E sc d 125 117 [x0] st g mi mr Q = tw_E sc d 125 120 [x0] (.int 4000 :: st) g mi mr Q := tw_x_sipush td_125_117 (by decide)
theorem td_125_120 : decode (tw_cd 125) 120 = .ok (.newarray .int, 2) := by decide +kernel
theorem tz_125_120 : tw_E sc d 125 120 [x0] (.int 4000 :: st) g mi mr Q = tw_E sc d 125 122 [x0] (.ref g.1 :: st) (tw_gn g 20 4000 4000) (tw_st mi g.1 (fun _ => 0)) (tw_st mr g.1 (fun _ => none)) Q := tw_x_newi td_125_120 (by decide)
theorem td_125_122 : decode (tw_cd 125) 122 = .ok (.putfield 53, 3) := by decide +kernel
theorem tz_125_122 : tw_E sc d 125 122 [x0] (.ref b :: .ref a :: st) g mi mr Q = (tw_kd g a = 10 ∧ tw_E sc d 125 125 [x0] st g mi (tw_st mr a (tw_st (mr a) 21 (some b))) Q) := tw_x_putr td_125_122 to_125 tf_10_53 (Or.inr ⟨rfl, rfl⟩) (trf_10_21)
theorem td_125_125 : decode (tw_cd 125) 125 = .ok (.aload_n 0, 1) := by decide +kernel
theorem tz_125_125 : tw_E sc d 125 125 [some (.ref a)] st g mi mr Q = tw_E sc d 125 126 [some (.ref a)] (.ref a :: st) g mi mr Q := tw_x_aload_n td_125_125 rfl
theorem td_125_126 : decode (tw_cd 125) 126 = .ok (.sipush 4000, 3) := by decide +kernel
theorem tz_125_126 : tw_E sc d 125 126 [x0] st g mi mr Q = tw_E sc d 125 129 [x0] (.int 4000 :: st) g mi mr Q := tw_x_sipush td_125_126 (by decide)
theorem td_125_129 : decode (tw_cd 125) 129 = .ok (.newarray .boolean, 2) := by decide +kernel
theorem tz_125_129 : tw_E sc d 125 129 [x0] (.int 4000 :: st) g mi mr Q = tw_E sc d 125 131 [x0] (.ref g.1 :: st) (tw_gn g 21 4000 4000) (tw_st mi g.1 (fun _ => 0)) (tw_st mr g.1 (fun _ => none)) Q := tw_x_newz td_125_129 (by decide)
theorem td_125_131 : decode (tw_cd 125) 131 = .ok (.putfield 56, 3) := by decide +kernel
theorem tz_125_131 : tw_E sc d 125 131 [x0] (.ref b :: .ref a :: st) g mi mr Q = (tw_kd g a = 10 ∧ tw_E sc d 125 134 [x0] st g mi (tw_st mr a (tw_st (mr a) 22 (some b))) Q) := tw_x_putr td_125_131 to_125 tf_10_56 (Or.inr ⟨rfl, rfl⟩) (trf_10_22)
theorem td_125_134 : decode (tw_cd 125) 134 = .ok (.aload_n 0, 1) := by decide +kernel
theorem tz_125_134 : tw_E sc d 125 134 [some (.ref a)] st g mi mr Q = tw_E sc d 125 135 [some (.ref a)] (.ref a :: st) g mi mr Q := tw_x_aload_n td_125_134 rfl
theorem td_125_135 : decode (tw_cd 125) 135 = .ok (.sipush 1001, 3) := by decide +kernel
theorem tz_125_135 : tw_E sc d 125 135 [x0] st g mi mr Q = tw_E sc d 125 138 [x0] (.int 1001 :: st) g mi mr Q := tw_x_sipush td_125_135 (by decide)
theorem td_125_138 : decode (tw_cd 125) 138 = .ok (.newarray .int, 2) := by decide +kernel
theorem tz_125_138 : tw_E sc d 125 138 [x0] (.int 1001 :: st) g mi mr Q = tw_E sc d 125 140 [x0] (.ref g.1 :: st) (tw_gn g 20 1001 1001) (tw_st mi g.1 (fun _ => 0)) (tw_st mr g.1 (fun _ => none)) Q := tw_x_newi td_125_138 (by decide)
theorem td_125_140 : decode (tw_cd 125) 140 = .ok (.putfield 59, 3) := by decide +kernel
theorem tz_125_140 : tw_E sc d 125 140 [x0] (.ref b :: .ref a :: st) g mi mr Q = (tw_kd g a = 10 ∧ tw_E sc d 125 143 [x0] st g mi (tw_st mr a (tw_st (mr a) 24 (some b))) Q) := tw_x_putr td_125_140 to_125 tf_10_59 (Or.inr ⟨rfl, rfl⟩) (trf_10_24)
theorem td_125_143 : decode (tw_cd 125) 143 = .ok (.aload_n 0, 1) := by decide +kernel
theorem tz_125_143 : tw_E sc d 125 143 [some (.ref a)] st g mi mr Q = tw_E sc d 125 144 [some (.ref a)] (.ref a :: st) g mi mr Q := tw_x_aload_n td_125_143 rfl
theorem td_125_144 : decode (tw_cd 125) 144 = .ok (.sipush 400, 3) := by decide +kernel
theorem tz_125_144 : tw_E sc d 125 144 [x0] st g mi mr Q = tw_E sc d 125 147 [x0] (.int 400 :: st) g mi mr Q := tw_x_sipush td_125_144 (by decide)
theorem td_125_147 : decode (tw_cd 125) 147 = .ok (.newarray .int, 2) := by decide +kernel
theorem tz_125_147 : tw_E sc d 125 147 [x0] (.int 400 :: st) g mi mr Q = tw_E sc d 125 149 [x0] (.ref g.1 :: st) (tw_gn g 20 400 400) (tw_st mi g.1 (fun _ => 0)) (tw_st mr g.1 (fun _ => none)) Q := tw_x_newi td_125_147 (by decide)
theorem td_125_149 : decode (tw_cd 125) 149 = .ok (.putfield 62, 3) := by decide +kernel
theorem tz_125_149 : tw_E sc d 125 149 [x0] (.ref b :: .ref a :: st) g mi mr Q = (tw_kd g a = 10 ∧ tw_E sc d 125 152 [x0] st g mi (tw_st mr a (tw_st (mr a) 26 (some b))) Q) := tw_x_putr td_125_149 to_125 tf_10_62 (Or.inr ⟨rfl, rfl⟩) (trf_10_26)
theorem td_125_152 : decode (tw_cd 125) 152 = .ok (.aload_n 0, 1) := by decide +kernel
theorem tz_125_152 : tw_E sc d 125 152 [some (.ref a)] st g mi mr Q = tw_E sc d 125 153 [some (.ref a)] (.ref a :: st) g mi mr Q := tw_x_aload_n td_125_152 rfl
theorem td_125_153 : decode (tw_cd 125) 153 = .ok (.sipush 400, 3) := by decide +kernel
theorem tz_125_153 : tw_E sc d 125 153 [x0] st g mi mr Q = tw_E sc d 125 156 [x0] (.int 400 :: st) g mi mr Q := tw_x_sipush td_125_153 (by decide)
theorem td_125_156 : decode (tw_cd 125) 156 = .ok (.newarray .int, 2) := by decide +kernel
theorem tz_125_156 : tw_E sc d 125 156 [x0] (.int 400 :: st) g mi mr Q = tw_E sc d 125 158 [x0] (.ref g.1 :: st) (tw_gn g 20 400 400) (tw_st mi g.1 (fun _ => 0)) (tw_st mr g.1 (fun _ => none)) Q := tw_x_newi td_125_156 (by decide)
theorem td_125_158 : decode (tw_cd 125) 158 = .ok (.putfield 65, 3) := by decide +kernel
theorem tz_125_158 : tw_E sc d 125 158 [x0] (.ref b :: .ref a :: st) g mi mr Q = (tw_kd g a = 10 ∧ tw_E sc d 125 161 [x0] st g mi (tw_st mr a (tw_st (mr a) 27 (some b))) Q) := tw_x_putr td_125_158 to_125 tf_10_65 (Or.inr ⟨rfl, rfl⟩) (trf_10_27)
theorem td_125_161 : decode (tw_cd 125) 161 = .ok (.aload_n 0, 1) := by decide +kernel
theorem tz_125_161 : tw_E sc d 125 161 [some (.ref a)] st g mi mr Q = tw_E sc d 125 162 [some (.ref a)] (.ref a :: st) g mi mr Q := tw_x_aload_n td_125_161 rfl
theorem td_125_162 : decode (tw_cd 125) 162 = .ok (.sipush 400, 3) := by decide +kernel
theorem tz_125_162 : tw_E sc d 125 162 [x0] st g mi mr Q = tw_E sc d 125 165 [x0] (.int 400 :: st) g mi mr Q := tw_x_sipush td_125_162 (by decide)
theorem td_125_165 : decode (tw_cd 125) 165 = .ok (.newarray .int, 2) := by decide +kernel
theorem tz_125_165 : tw_E sc d 125 165 [x0] (.int 400 :: st) g mi mr Q = tw_E sc d 125 167 [x0] (.ref g.1 :: st) (tw_gn g 20 400 400) (tw_st mi g.1 (fun _ => 0)) (tw_st mr g.1 (fun _ => none)) Q := tw_x_newi td_125_165 (by decide)
theorem td_125_167 : decode (tw_cd 125) 167 = .ok (.putfield 68, 3) := by decide +kernel
theorem tz_125_167 : tw_E sc d 125 167 [x0] (.ref b :: .ref a :: st) g mi mr Q = (tw_kd g a = 10 ∧ tw_E sc d 125 170 [x0] st g mi (tw_st mr a (tw_st (mr a) 28 (some b))) Q) := tw_x_putr td_125_167 to_125 tf_10_68 (Or.inr ⟨rfl, rfl⟩) (trf_10_28)
theorem td_125_170 : decode (tw_cd 125) 170 = .ok (.aload_n 0, 1) := by decide +kernel
theorem tz_125_170 : tw_E sc d 125 170 [some (.ref a)] st g mi mr Q = tw_E sc d 125 171 [some (.ref a)] (.ref a :: st) g mi mr Q := tw_x_aload_n td_125_170 rfl
theorem td_125_171 : decode (tw_cd 125) 171 = .ok (.bipush 64, 2) := by decide +kernel
theorem tz_125_171 : tw_E sc d 125 171 [x0] st g mi mr Q = tw_E sc d 125 173 [x0] (.int 64 :: st) g mi mr Q := tw_x_bipush td_125_171 (by decide)
theorem td_125_173 : decode (tw_cd 125) 173 = .ok (.newarray .int, 2) := by decide +kernel
theorem tz_125_173 : tw_E sc d 125 173 [x0] (.int 64 :: st) g mi mr Q = tw_E sc d 125 175 [x0] (.ref g.1 :: st) (tw_gn g 20 64 64) (tw_st mi g.1 (fun _ => 0)) (tw_st mr g.1 (fun _ => none)) Q := tw_x_newi td_125_173 (by decide)
theorem td_125_175 : decode (tw_cd 125) 175 = .ok (.putfield 71, 3) := by decide +kernel
theorem tz_125_175 : tw_E sc d 125 175 [x0] (.ref b :: .ref a :: st) g mi mr Q = (tw_kd g a = 10 ∧ tw_E sc d 125 178 [x0] st g mi (tw_st mr a (tw_st (mr a) 34 (some b))) Q) := tw_x_putr td_125_175 to_125 tf_10_71 (Or.inr ⟨rfl, rfl⟩) (trf_10_34)
theorem td_125_178 : decode (tw_cd 125) 178 = .ok (.aload_n 0, 1) := by decide +kernel
theorem tz_125_178 : tw_E sc d 125 178 [some (.ref a)] st g mi mr Q = tw_E sc d 125 179 [some (.ref a)] (.ref a :: st) g mi mr Q := tw_x_aload_n td_125_178 rfl
theorem td_125_179 : decode (tw_cd 125) 179 = .ok (.bipush 64, 2) := by decide +kernel
theorem tz_125_179 : tw_E sc d 125 179 [x0] st g mi mr Q = tw_E sc d 125 181 [x0] (.int 64 :: st) g mi mr Q := tw_x_bipush td_125_179 (by decide)
theorem td_125_181 : decode (tw_cd 125) 181 = .ok (.newarray .int, 2) := by decide +kernel
theorem tz_125_181 : tw_E sc d 125 181 [x0] (.int 64 :: st) g mi mr Q = tw_E sc d 125 183 [x0] (.ref g.1 :: st) (tw_gn g 20 64 64) (tw_st mi g.1 (fun _ => 0)) (tw_st mr g.1 (fun _ => none)) Q := tw_x_newi td_125_181 (by decide)
theorem td_125_183 : decode (tw_cd 125) 183 = .ok (.putfield 74, 3) := by decide +kernel
theorem tz_125_183 : tw_E sc d 125 183 [x0] (.ref b :: .ref a :: st) g mi mr Q = (tw_kd g a = 10 ∧ tw_E sc d 125 186 [x0] st g mi (tw_st mr a (tw_st (mr a) 35 (some b))) Q) := tw_x_putr td_125_183 to_125 tf_10_74 (Or.inr ⟨rfl, rfl⟩) (trf_10_35)
theorem td_125_186 : decode (tw_cd 125) 186 = .ok (.aload_n 0, 1) := by decide +kernel
theorem tz_125_186 : tw_E sc d 125 186 [some (.ref a)] st g mi mr Q = tw_E sc d 125 187 [some (.ref a)] (.ref a :: st) g mi mr Q := tw_x_aload_n td_125_186 rfl
theorem td_125_187 : decode (tw_cd 125) 187 = .ok (.bipush 64, 2) := by decide +kernel
theorem tz_125_187 : tw_E sc d 125 187 [x0] st g mi mr Q = tw_E sc d 125 189 [x0] (.int 64 :: st) g mi mr Q := tw_x_bipush td_125_187 (by decide)
theorem td_125_189 : decode (tw_cd 125) 189 = .ok (.newarray .int, 2) := by decide +kernel
theorem tz_125_189 : tw_E sc d 125 189 [x0] (.int 64 :: st) g mi mr Q = tw_E sc d 125 191 [x0] (.ref g.1 :: st) (tw_gn g 20 64 64) (tw_st mi g.1 (fun _ => 0)) (tw_st mr g.1 (fun _ => none)) Q := tw_x_newi td_125_189 (by decide)
theorem td_125_191 : decode (tw_cd 125) 191 = .ok (.putfield 77, 3) := by decide +kernel
theorem tz_125_191 : tw_E sc d 125 191 [x0] (.ref b :: .ref a :: st) g mi mr Q = (tw_kd g a = 10 ∧ tw_E sc d 125 194 [x0] st g mi (tw_st mr a (tw_st (mr a) 36 (some b))) Q) := tw_x_putr td_125_191 to_125 tf_10_77 (Or.inr ⟨rfl, rfl⟩) (trf_10_36)
theorem td_125_194 : decode (tw_cd 125) 194 = .ok (.aload_n 0, 1) := by decide +kernel
theorem tz_125_194 : tw_E sc d 125 194 [some (.ref a)] st g mi mr Q = tw_E sc d 125 195 [some (.ref a)] (.ref a :: st) g mi mr Q := tw_x_aload_n td_125_194 rfl
theorem td_125_195 : decode (tw_cd 125) 195 = .ok (.bipush 64, 2) := by decide +kernel
theorem tz_125_195 : tw_E sc d 125 195 [x0] st g mi mr Q = tw_E sc d 125 197 [x0] (.int 64 :: st) g mi mr Q := tw_x_bipush td_125_195 (by decide)
theorem td_125_197 : decode (tw_cd 125) 197 = .ok (.newarray .int, 2) := by decide +kernel
theorem tz_125_197 : tw_E sc d 125 197 [x0] (.int 64 :: st) g mi mr Q = tw_E sc d 125 199 [x0] (.ref g.1 :: st) (tw_gn g 20 64 64) (tw_st mi g.1 (fun _ => 0)) (tw_st mr g.1 (fun _ => none)) Q := tw_x_newi td_125_197 (by decide)
theorem td_125_199 : decode (tw_cd 125) 199 = .ok (.putfield 80, 3) := by decide +kernel
theorem tz_125_199 : tw_E sc d 125 199 [x0] (.ref b :: .ref a :: st) g mi mr Q = (tw_kd g a = 10 ∧ tw_E sc d 125 202 [x0] st g mi (tw_st mr a (tw_st (mr a) 37 (some b))) Q) := tw_x_putr td_125_199 to_125 tf_10_80 (Or.inr ⟨rfl, rfl⟩) (trf_10_37)
theorem td_125_202 : decode (tw_cd 125) 202 = .ok (.return_, 1) := by decide +kernel
theorem tz_125_202 : tw_E sc d 125 202 [x0] [] g mi mr Q = Q none g mi mr := tw_x_vret td_125_202 tr_125
end tz_125
-- 126: Mo_in
section tz_126
variable {sc : Nat × (Nat → Int32)} {d : Nat} {x0 x1 x2 x3 x4 x5 : Option Value} {st : List Value} {g : tw_G} {mi : tw_I} {mr : tw_Q} {Q : Option Value → tw_G → tw_I → tw_Q → Prop} {v w u : Int32} {a b : Nat} {j h : Int64} {s1 s2 s3 s4 : Value}
theorem td_126_0 : decode (tw_cd 126) 0 = .ok (.lload_n 0, 1) := by decide +kernel
theorem tz_126_0 : tw_E sc d 126 0 [some (.long j), x1, x2, x3, x4, x5] st g mi mr Q = tw_E sc d 126 1 [some (.long j), x1, x2, x3, x4, x5] (.long j :: st) g mi mr Q := tw_x_lload_n td_126_0 rfl
theorem td_126_1 : decode (tw_cd 126) 1 = .ok (.lload_n 2, 1) := by decide +kernel
theorem tz_126_1 : tw_E sc d 126 1 [x0, x1, some (.long j), x3, x4, x5] st g mi mr Q = tw_E sc d 126 2 [x0, x1, some (.long j), x3, x4, x5] (.long j :: st) g mi mr Q := tw_x_lload_n td_126_1 rfl
theorem td_126_2 : decode (tw_cd 126) 2 = .ok (.lcmp, 1) := by decide +kernel
theorem tz_126_2 : tw_E sc d 126 2 [x0, x1, x2, x3, x4, x5] (.long h :: .long j :: st) g mi mr Q = tw_E sc d 126 3 [x0, x1, x2, x3, x4, x5] (.int (lg_cmp j h) :: st) g mi mr Q := tw_x_lcmp td_126_2
theorem td_126_3 : decode (tw_cd 126) 3 = .ok (.ifCond .lt 14, 3) := by decide +kernel
theorem tz_126_3 : tw_E sc d 126 3 [x0, x1, x2, x3, x4, x5] (.int v :: st) g mi mr Q = if v < 0 then tw_E sc d 126 17 [x0, x1, x2, x3, x4, x5] st g mi mr Q else tw_E sc d 126 6 [x0, x1, x2, x3, x4, x5] st g mi mr Q := tw_x_if_lt td_126_3 (by decide)
theorem td_126_6 : decode (tw_cd 126) 6 = .ok (.lload_n 0, 1) := by decide +kernel
theorem tz_126_6 : tw_E sc d 126 6 [some (.long j), x1, x2, x3, x4, x5] st g mi mr Q = tw_E sc d 126 7 [some (.long j), x1, x2, x3, x4, x5] (.long j :: st) g mi mr Q := tw_x_lload_n td_126_6 rfl
theorem td_126_7 : decode (tw_cd 126) 7 = .ok (.lload 4, 2) := by decide +kernel
theorem tz_126_7 : tw_E sc d 126 7 [x0, x1, x2, x3, some (.long j), x5] st g mi mr Q = tw_E sc d 126 9 [x0, x1, x2, x3, some (.long j), x5] (.long j :: st) g mi mr Q := tw_x_lload td_126_7 rfl
theorem td_126_9 : decode (tw_cd 126) 9 = .ok (.lcmp, 1) := by decide +kernel
theorem tz_126_9 : tw_E sc d 126 9 [x0, x1, x2, x3, x4, x5] (.long h :: .long j :: st) g mi mr Q = tw_E sc d 126 10 [x0, x1, x2, x3, x4, x5] (.int (lg_cmp j h) :: st) g mi mr Q := tw_x_lcmp td_126_9
theorem td_126_10 : decode (tw_cd 126) 10 = .ok (.ifCond .gt 7, 3) := by decide +kernel
theorem tz_126_10 : tw_E sc d 126 10 [x0, x1, x2, x3, x4, x5] (.int v :: st) g mi mr Q = if 0 < v then tw_E sc d 126 17 [x0, x1, x2, x3, x4, x5] st g mi mr Q else tw_E sc d 126 13 [x0, x1, x2, x3, x4, x5] st g mi mr Q := tw_x_if_gt td_126_10 (by decide)
theorem td_126_13 : decode (tw_cd 126) 13 = .ok (.iconst 1, 1) := by decide +kernel
theorem tz_126_13 : tw_E sc d 126 13 [x0, x1, x2, x3, x4, x5] st g mi mr Q = tw_E sc d 126 14 [x0, x1, x2, x3, x4, x5] (.int 1 :: st) g mi mr Q := tw_x_iconst td_126_13 (by decide)
theorem td_126_14 : decode (tw_cd 126) 14 = .ok (.goto 4, 3) := by decide +kernel
theorem tz_126_14 : tw_E sc d 126 14 [x0, x1, x2, x3, x4, x5] st g mi mr Q = tw_E sc d 126 18 [x0, x1, x2, x3, x4, x5] st g mi mr Q := tw_x_goto td_126_14 (by decide)
theorem td_126_17 : decode (tw_cd 126) 17 = .ok (.iconst 0, 1) := by decide +kernel
theorem tz_126_17 : tw_E sc d 126 17 [x0, x1, x2, x3, x4, x5] st g mi mr Q = tw_E sc d 126 18 [x0, x1, x2, x3, x4, x5] (.int 0 :: st) g mi mr Q := tw_x_iconst td_126_17 (by decide)
theorem td_126_18 : decode (tw_cd 126) 18 = .ok (.ireturn, 1) := by decide +kernel
theorem tz_126_18 : tw_E sc d 126 18 [x0, x1, x2, x3, x4, x5] ([.int v]) g mi mr Q = ((v = 0 ∨ v = 1) ∧ Q (some (.int v)) g mi mr) := tw_x_zret td_126_18 tr_126
end tz_126
-- 127: Mo_feed
section tz_127
variable {sc : Nat × (Nat → Int32)} {d : Nat} {x0 x1 x2 x3 x4 : Option Value} {st : List Value} {g : tw_G} {mi : tw_I} {mr : tw_Q} {Q : Option Value → tw_G → tw_I → tw_Q → Prop} {v w u : Int32} {a b : Nat} {j h : Int64} {s1 s2 s3 s4 : Value}
theorem td_127_0 : decode (tw_cd 127) 0 = .ok (.aload_n 0, 1) := by decide +kernel
theorem tz_127_0 : tw_E sc d 127 0 [some (.ref a), x1, x2, x3, x4] st g mi mr Q = tw_E sc d 127 1 [some (.ref a), x1, x2, x3, x4] (.ref a :: st) g mi mr Q := tw_x_aload_n td_127_0 rfl
theorem td_127_1 : decode (tw_cd 127) 1 = .ok (.iconst 0, 1) := by decide +kernel
theorem tz_127_1 : tw_E sc d 127 1 [x0, x1, x2, x3, x4] st g mi mr Q = tw_E sc d 127 2 [x0, x1, x2, x3, x4] (.int 0 :: st) g mi mr Q := tw_x_iconst td_127_1 (by decide)
theorem td_127_2 : decode (tw_cd 127) 2 = .ok (.putfield 83, 3) := by decide +kernel
theorem tz_127_2 : tw_E sc d 127 2 [x0, x1, x2, x3, x4] (.int v :: .ref a :: st) g mi mr Q = (tw_kd g a = 10 ∧ tw_E sc d 127 5 [x0, x1, x2, x3, x4] st g (tw_st mi a (tw_st (mi a) 0 v)) mr Q) := tw_x_puti td_127_2 to_127 tf_10_83 rfl rfl
theorem td_127_5 : decode (tw_cd 127) 5 = .ok (.iconst 0, 1) := by decide +kernel
theorem tz_127_5 : tw_E sc d 127 5 [x0, x1, x2, x3, x4] st g mi mr Q = tw_E sc d 127 6 [x0, x1, x2, x3, x4] (.int 0 :: st) g mi mr Q := tw_x_iconst td_127_5 (by decide)
theorem td_127_6 : decode (tw_cd 127) 6 = .ok (.istore_n 3, 1) := by decide +kernel
theorem tz_127_6 : tw_E sc d 127 6 [x0, x1, x2, x3, x4] (.int v :: st) g mi mr Q = tw_E sc d 127 7 [x0, x1, x2, some (.int v), x4] st g mi mr Q := tw_x_istore_n td_127_6 tp_127 rfl
theorem td_127_7 : decode (tw_cd 127) 7 = .ok (.iload_n 3, 1) := by decide +kernel
theorem tz_127_7 : tw_E sc d 127 7 [x0, x1, x2, some (.int v), x4] st g mi mr Q = tw_E sc d 127 8 [x0, x1, x2, some (.int v), x4] (.int v :: st) g mi mr Q := tw_x_iload_n td_127_7 rfl
theorem td_127_8 : decode (tw_cd 127) 8 = .ok (.bipush 8, 2) := by decide +kernel
theorem tz_127_8 : tw_E sc d 127 8 [x0, x1, x2, x3, x4] st g mi mr Q = tw_E sc d 127 10 [x0, x1, x2, x3, x4] (.int 8 :: st) g mi mr Q := tw_x_bipush td_127_8 (by decide)
theorem td_127_10 : decode (tw_cd 127) 10 = .ok (.if_icmp .ge 24, 3) := by decide +kernel
theorem tz_127_10 : tw_E sc d 127 10 [x0, x1, x2, x3, x4] (.int w :: .int v :: st) g mi mr Q = if w ≤ v then tw_E sc d 127 34 [x0, x1, x2, x3, x4] st g mi mr Q else tw_E sc d 127 13 [x0, x1, x2, x3, x4] st g mi mr Q := tw_x_ic_ge td_127_10 (by decide)
theorem td_127_13 : decode (tw_cd 127) 13 = .ok (.lload_n 1, 1) := by decide +kernel
theorem tz_127_13 : tw_E sc d 127 13 [x0, some (.long j), x2, x3, x4] st g mi mr Q = tw_E sc d 127 14 [x0, some (.long j), x2, x3, x4] (.long j :: st) g mi mr Q := tw_x_lload_n td_127_13 rfl
theorem td_127_14 : decode (tw_cd 127) 14 = .ok (.bipush 8, 2) := by decide +kernel
theorem tz_127_14 : tw_E sc d 127 14 [x0, x1, x2, x3, x4] st g mi mr Q = tw_E sc d 127 16 [x0, x1, x2, x3, x4] (.int 8 :: st) g mi mr Q := tw_x_bipush td_127_14 (by decide)
theorem td_127_16 : decode (tw_cd 127) 16 = .ok (.iload_n 3, 1) := by decide +kernel
theorem tz_127_16 : tw_E sc d 127 16 [x0, x1, x2, some (.int v), x4] st g mi mr Q = tw_E sc d 127 17 [x0, x1, x2, some (.int v), x4] (.int v :: st) g mi mr Q := tw_x_iload_n td_127_16 rfl
theorem td_127_17 : decode (tw_cd 127) 17 = .ok (.imul, 1) := by decide +kernel
theorem tz_127_17 : tw_E sc d 127 17 [x0, x1, x2, x3, x4] (.int w :: .int v :: st) g mi mr Q = tw_E sc d 127 18 [x0, x1, x2, x3, x4] (.int (v * w) :: st) g mi mr Q := tw_x_imul td_127_17
theorem td_127_18 : decode (tw_cd 127) 18 = .ok (.lshr, 1) := by decide +kernel
theorem tz_127_18 : tw_E sc d 127 18 [x0, x1, x2, x3, x4] (.int w :: .long j :: st) g mi mr Q = tw_E sc d 127 19 [x0, x1, x2, x3, x4] (.long (j >>> (w.toInt64 &&& 63)) :: st) g mi mr Q := tw_x_lshr td_127_18
theorem td_127_19 : decode (tw_cd 127) 19 = .ok (.ldc2_w 87, 3) := by decide +kernel
theorem tz_127_19 : tw_E sc d 127 19 [x0, x1, x2, x3, x4] st g mi mr Q = tw_E sc d 127 22 [x0, x1, x2, x3, x4] (.long 255 :: st) g mi mr Q := tw_x_ldl td_127_19 to_127 tl_10_87
theorem td_127_22 : decode (tw_cd 127) 22 = .ok (.land, 1) := by decide +kernel
theorem tz_127_22 : tw_E sc d 127 22 [x0, x1, x2, x3, x4] (.long h :: .long j :: st) g mi mr Q = tw_E sc d 127 23 [x0, x1, x2, x3, x4] (.long (j &&& h) :: st) g mi mr Q := tw_x_land td_127_22
theorem td_127_23 : decode (tw_cd 127) 23 = .ok (.lconst 0, 1) := by decide +kernel
theorem tz_127_23 : tw_E sc d 127 23 [x0, x1, x2, x3, x4] st g mi mr Q = tw_E sc d 127 24 [x0, x1, x2, x3, x4] (.long 0 :: st) g mi mr Q := tw_x_lconst td_127_23 (by decide)
theorem td_127_24 : decode (tw_cd 127) 24 = .ok (.lcmp, 1) := by decide +kernel
theorem tz_127_24 : tw_E sc d 127 24 [x0, x1, x2, x3, x4] (.long h :: .long j :: st) g mi mr Q = tw_E sc d 127 25 [x0, x1, x2, x3, x4] (.int (lg_cmp j h) :: st) g mi mr Q := tw_x_lcmp td_127_24
theorem td_127_25 : decode (tw_cd 127) 25 = .ok (.ifCond .eq 9, 3) := by decide +kernel
theorem tz_127_25 : tw_E sc d 127 25 [x0, x1, x2, x3, x4] (.int v :: st) g mi mr Q = if v = 0 then tw_E sc d 127 34 [x0, x1, x2, x3, x4] st g mi mr Q else tw_E sc d 127 28 [x0, x1, x2, x3, x4] st g mi mr Q := tw_x_if_eq td_127_25 (by decide)
theorem td_127_28 : decode (tw_cd 127) 28 = .ok (.iinc 3 1, 3) := by decide +kernel
theorem tz_127_28 : tw_E sc d 127 28 [x0, x1, x2, some (.int v), x4] st g mi mr Q = tw_E sc d 127 31 [x0, x1, x2, some (.int (v + 1)), x4] st g mi mr Q := tw_x_iinc td_127_28 rfl (by first | rfl | (exact congrArg (v + ·) (by decide))) tp_127 rfl
theorem td_127_31 : decode (tw_cd 127) 31 = .ok (.goto (-24), 3) := by decide +kernel
theorem tz_127_31 : tw_E sc d 127 31 [x0, x1, x2, x3, x4] st g mi mr Q = tw_E sc d 127 7 [x0, x1, x2, x3, x4] st g mi mr Q := tw_x_goto td_127_31 (by decide)
theorem td_127_34 : decode (tw_cd 127) 34 = .ok (.aload_n 0, 1) := by decide +kernel
theorem tz_127_34 : tw_E sc d 127 34 [some (.ref a), x1, x2, x3, x4] st g mi mr Q = tw_E sc d 127 35 [some (.ref a), x1, x2, x3, x4] (.ref a :: st) g mi mr Q := tw_x_aload_n td_127_34 rfl
theorem td_127_35 : decode (tw_cd 127) 35 = .ok (.getfield 89, 3) := by decide +kernel
theorem tz_127_35 : tw_E sc d 127 35 [x0, x1, x2, x3, x4] (.ref a :: st) g mi mr Q = (tw_kd g a = 10 ∧ tw_E sc d 127 38 [x0, x1, x2, x3, x4] (.int (mi a 2) :: st) g mi mr Q) := tw_x_geti td_127_35 to_127 tf_10_89 (trf_10_2)
theorem td_127_38 : decode (tw_cd 127) 38 = .ok (.iload_n 3, 1) := by decide +kernel
theorem tz_127_38 : tw_E sc d 127 38 [x0, x1, x2, some (.int v), x4] st g mi mr Q = tw_E sc d 127 39 [x0, x1, x2, some (.int v), x4] (.int v :: st) g mi mr Q := tw_x_iload_n td_127_38 rfl
theorem td_127_39 : decode (tw_cd 127) 39 = .ok (.iadd, 1) := by decide +kernel
theorem tz_127_39 : tw_E sc d 127 39 [x0, x1, x2, x3, x4] (.int w :: .int v :: st) g mi mr Q = tw_E sc d 127 40 [x0, x1, x2, x3, x4] (.int (v + w) :: st) g mi mr Q := tw_x_iadd td_127_39
theorem td_127_40 : decode (tw_cd 127) 40 = .ok (.bipush 60, 2) := by decide +kernel
theorem tz_127_40 : tw_E sc d 127 40 [x0, x1, x2, x3, x4] st g mi mr Q = tw_E sc d 127 42 [x0, x1, x2, x3, x4] (.int 60 :: st) g mi mr Q := tw_x_bipush td_127_40 (by decide)
theorem td_127_42 : decode (tw_cd 127) 42 = .ok (.if_icmp .le 6, 3) := by decide +kernel
theorem tz_127_42 : tw_E sc d 127 42 [x0, x1, x2, x3, x4] (.int w :: .int v :: st) g mi mr Q = if v ≤ w then tw_E sc d 127 48 [x0, x1, x2, x3, x4] st g mi mr Q else tw_E sc d 127 45 [x0, x1, x2, x3, x4] st g mi mr Q := tw_x_ic_le td_127_42 (by decide)
theorem td_127_45 : decode (tw_cd 127) 45 = .ok (.bipush (-4), 2) := by decide +kernel
theorem tz_127_45 : tw_E sc d 127 45 [x0, x1, x2, x3, x4] st g mi mr Q = tw_E sc d 127 47 [x0, x1, x2, x3, x4] (.int (-4) :: st) g mi mr Q := tw_x_bipush td_127_45 (by decide)
theorem td_127_47 : decode (tw_cd 127) 47 = .ok (.ireturn, 1) := by decide +kernel
theorem tz_127_47 : tw_E sc d 127 47 [x0, x1, x2, x3, x4] ([.int v]) g mi mr Q = Q (some (.int v)) g mi mr := tw_x_iret td_127_47 tr_127
theorem td_127_48 : decode (tw_cd 127) 48 = .ok (.iconst 0, 1) := by decide +kernel
theorem tz_127_48 : tw_E sc d 127 48 [x0, x1, x2, x3, x4] st g mi mr Q = tw_E sc d 127 49 [x0, x1, x2, x3, x4] (.int 0 :: st) g mi mr Q := tw_x_iconst td_127_48 (by decide)
theorem td_127_49 : decode (tw_cd 127) 49 = .ok (.istore 4, 2) := by decide +kernel
theorem tz_127_49 : tw_E sc d 127 49 [x0, x1, x2, x3, x4] (.int v :: st) g mi mr Q = tw_E sc d 127 51 [x0, x1, x2, x3, some (.int v)] st g mi mr Q := tw_x_istore td_127_49 tp_127 rfl
theorem td_127_51 : decode (tw_cd 127) 51 = .ok (.iload 4, 2) := by decide +kernel
theorem tz_127_51 : tw_E sc d 127 51 [x0, x1, x2, x3, some (.int v)] st g mi mr Q = tw_E sc d 127 53 [x0, x1, x2, x3, some (.int v)] (.int v :: st) g mi mr Q := tw_x_iload td_127_51 rfl
theorem td_127_53 : decode (tw_cd 127) 53 = .ok (.iload_n 3, 1) := by decide +kernel
theorem tz_127_53 : tw_E sc d 127 53 [x0, x1, x2, some (.int v), x4] st g mi mr Q = tw_E sc d 127 54 [x0, x1, x2, some (.int v), x4] (.int v :: st) g mi mr Q := tw_x_iload_n td_127_53 rfl
theorem td_127_54 : decode (tw_cd 127) 54 = .ok (.if_icmp .ge 33, 3) := by decide +kernel
theorem tz_127_54 : tw_E sc d 127 54 [x0, x1, x2, x3, x4] (.int w :: .int v :: st) g mi mr Q = if w ≤ v then tw_E sc d 127 87 [x0, x1, x2, x3, x4] st g mi mr Q else tw_E sc d 127 57 [x0, x1, x2, x3, x4] st g mi mr Q := tw_x_ic_ge td_127_54 (by decide)
theorem td_127_57 : decode (tw_cd 127) 57 = .ok (.aload_n 0, 1) := by decide +kernel
theorem tz_127_57 : tw_E sc d 127 57 [some (.ref a), x1, x2, x3, x4] st g mi mr Q = tw_E sc d 127 58 [some (.ref a), x1, x2, x3, x4] (.ref a :: st) g mi mr Q := tw_x_aload_n td_127_57 rfl
theorem td_127_58 : decode (tw_cd 127) 58 = .ok (.getfield 7, 3) := by decide +kernel
theorem tz_127_58 : tw_E sc d 127 58 [x0, x1, x2, x3, x4] (.ref a :: st) g mi mr Q = (tw_kd g a = 10 ∧ tw_E sc d 127 61 [x0, x1, x2, x3, x4] (va_rf (mr a 1) :: st) g mi mr Q) := tw_x_getr td_127_58 to_127 tf_10_7 (trf_10_1)
theorem td_127_61 : decode (tw_cd 127) 61 = .ok (.aload_n 0, 1) := by decide +kernel
theorem tz_127_61 : tw_E sc d 127 61 [some (.ref a), x1, x2, x3, x4] st g mi mr Q = tw_E sc d 127 62 [some (.ref a), x1, x2, x3, x4] (.ref a :: st) g mi mr Q := tw_x_aload_n td_127_61 rfl
theorem td_127_62 : decode (tw_cd 127) 62 = .ok (.getfield 89, 3) := by decide +kernel
theorem tz_127_62 : tw_E sc d 127 62 [x0, x1, x2, x3, x4] (.ref a :: st) g mi mr Q = (tw_kd g a = 10 ∧ tw_E sc d 127 65 [x0, x1, x2, x3, x4] (.int (mi a 2) :: st) g mi mr Q) := tw_x_geti td_127_62 to_127 tf_10_89 (trf_10_2)
theorem td_127_65 : decode (tw_cd 127) 65 = .ok (.iload 4, 2) := by decide +kernel
theorem tz_127_65 : tw_E sc d 127 65 [x0, x1, x2, x3, some (.int v)] st g mi mr Q = tw_E sc d 127 67 [x0, x1, x2, x3, some (.int v)] (.int v :: st) g mi mr Q := tw_x_iload td_127_65 rfl
theorem td_127_67 : decode (tw_cd 127) 67 = .ok (.iadd, 1) := by decide +kernel
theorem tz_127_67 : tw_E sc d 127 67 [x0, x1, x2, x3, x4] (.int w :: .int v :: st) g mi mr Q = tw_E sc d 127 68 [x0, x1, x2, x3, x4] (.int (v + w) :: st) g mi mr Q := tw_x_iadd td_127_67
theorem td_127_68 : decode (tw_cd 127) 68 = .ok (.lload_n 1, 1) := by decide +kernel
theorem tz_127_68 : tw_E sc d 127 68 [x0, some (.long j), x2, x3, x4] st g mi mr Q = tw_E sc d 127 69 [x0, some (.long j), x2, x3, x4] (.long j :: st) g mi mr Q := tw_x_lload_n td_127_68 rfl
theorem td_127_69 : decode (tw_cd 127) 69 = .ok (.bipush 8, 2) := by decide +kernel
theorem tz_127_69 : tw_E sc d 127 69 [x0, x1, x2, x3, x4] st g mi mr Q = tw_E sc d 127 71 [x0, x1, x2, x3, x4] (.int 8 :: st) g mi mr Q := tw_x_bipush td_127_69 (by decide)
theorem td_127_71 : decode (tw_cd 127) 71 = .ok (.iload 4, 2) := by decide +kernel
theorem tz_127_71 : tw_E sc d 127 71 [x0, x1, x2, x3, some (.int v)] st g mi mr Q = tw_E sc d 127 73 [x0, x1, x2, x3, some (.int v)] (.int v :: st) g mi mr Q := tw_x_iload td_127_71 rfl
theorem td_127_73 : decode (tw_cd 127) 73 = .ok (.imul, 1) := by decide +kernel
theorem tz_127_73 : tw_E sc d 127 73 [x0, x1, x2, x3, x4] (.int w :: .int v :: st) g mi mr Q = tw_E sc d 127 74 [x0, x1, x2, x3, x4] (.int (v * w) :: st) g mi mr Q := tw_x_imul td_127_73
theorem td_127_74 : decode (tw_cd 127) 74 = .ok (.lshr, 1) := by decide +kernel
theorem tz_127_74 : tw_E sc d 127 74 [x0, x1, x2, x3, x4] (.int w :: .long j :: st) g mi mr Q = tw_E sc d 127 75 [x0, x1, x2, x3, x4] (.long (j >>> (w.toInt64 &&& 63)) :: st) g mi mr Q := tw_x_lshr td_127_74
theorem td_127_75 : decode (tw_cd 127) 75 = .ok (.ldc2_w 87, 3) := by decide +kernel
theorem tz_127_75 : tw_E sc d 127 75 [x0, x1, x2, x3, x4] st g mi mr Q = tw_E sc d 127 78 [x0, x1, x2, x3, x4] (.long 255 :: st) g mi mr Q := tw_x_ldl td_127_75 to_127 tl_10_87
theorem td_127_78 : decode (tw_cd 127) 78 = .ok (.land, 1) := by decide +kernel
theorem tz_127_78 : tw_E sc d 127 78 [x0, x1, x2, x3, x4] (.long h :: .long j :: st) g mi mr Q = tw_E sc d 127 79 [x0, x1, x2, x3, x4] (.long (j &&& h) :: st) g mi mr Q := tw_x_land td_127_78
theorem td_127_79 : decode (tw_cd 127) 79 = .ok (.l2i, 1) := by decide +kernel
theorem tz_127_79 : tw_E sc d 127 79 [x0, x1, x2, x3, x4] (.long j :: st) g mi mr Q = tw_E sc d 127 80 [x0, x1, x2, x3, x4] (.int j.toInt32 :: st) g mi mr Q := tw_x_l2i td_127_79
theorem td_127_80 : decode (tw_cd 127) 80 = .ok (.iastore, 1) := by decide +kernel
theorem tz_127_80 : tw_E sc d 127 80 [x0, x1, x2, x3, x4] (.int w :: .int v :: .ref a :: st) g mi mr Q = ((tw_kd g a = 20 ∧ vp_in v (tw_ln g a)) ∧ tw_E sc d 127 81 [x0, x1, x2, x3, x4] st g (tw_st mi a (tw_st (mi a) v.toNatClampNeg w)) mr Q) := tw_x_iast td_127_80
theorem td_127_81 : decode (tw_cd 127) 81 = .ok (.iinc 4 1, 3) := by decide +kernel
theorem tz_127_81 : tw_E sc d 127 81 [x0, x1, x2, x3, some (.int v)] st g mi mr Q = tw_E sc d 127 84 [x0, x1, x2, x3, some (.int (v + 1))] st g mi mr Q := tw_x_iinc td_127_81 rfl (by first | rfl | (exact congrArg (v + ·) (by decide))) tp_127 rfl
theorem td_127_84 : decode (tw_cd 127) 84 = .ok (.goto (-33), 3) := by decide +kernel
theorem tz_127_84 : tw_E sc d 127 84 [x0, x1, x2, x3, x4] st g mi mr Q = tw_E sc d 127 51 [x0, x1, x2, x3, x4] st g mi mr Q := tw_x_goto td_127_84 (by decide)
theorem td_127_87 : decode (tw_cd 127) 87 = .ok (.aload_n 0, 1) := by decide +kernel
theorem tz_127_87 : tw_E sc d 127 87 [some (.ref a), x1, x2, x3, x4] st g mi mr Q = tw_E sc d 127 88 [some (.ref a), x1, x2, x3, x4] (.ref a :: st) g mi mr Q := tw_x_aload_n td_127_87 rfl
theorem td_127_88 : decode (tw_cd 127) 88 = .ok (.dup, 1) := by decide +kernel
theorem tz_127_88 : tw_E sc d 127 88 [x0, x1, x2, x3, x4] (.ref a :: st) g mi mr Q = tw_E sc d 127 89 [x0, x1, x2, x3, x4] (.ref a :: .ref a :: st) g mi mr Q := tw_x_dup_ref td_127_88
theorem td_127_89 : decode (tw_cd 127) 89 = .ok (.getfield 89, 3) := by decide +kernel
theorem tz_127_89 : tw_E sc d 127 89 [x0, x1, x2, x3, x4] (.ref a :: st) g mi mr Q = (tw_kd g a = 10 ∧ tw_E sc d 127 92 [x0, x1, x2, x3, x4] (.int (mi a 2) :: st) g mi mr Q) := tw_x_geti td_127_89 to_127 tf_10_89 (trf_10_2)
theorem td_127_92 : decode (tw_cd 127) 92 = .ok (.iload_n 3, 1) := by decide +kernel
theorem tz_127_92 : tw_E sc d 127 92 [x0, x1, x2, some (.int v), x4] st g mi mr Q = tw_E sc d 127 93 [x0, x1, x2, some (.int v), x4] (.int v :: st) g mi mr Q := tw_x_iload_n td_127_92 rfl
theorem td_127_93 : decode (tw_cd 127) 93 = .ok (.iadd, 1) := by decide +kernel
theorem tz_127_93 : tw_E sc d 127 93 [x0, x1, x2, x3, x4] (.int w :: .int v :: st) g mi mr Q = tw_E sc d 127 94 [x0, x1, x2, x3, x4] (.int (v + w) :: st) g mi mr Q := tw_x_iadd td_127_93
theorem td_127_94 : decode (tw_cd 127) 94 = .ok (.putfield 89, 3) := by decide +kernel
theorem tz_127_94 : tw_E sc d 127 94 [x0, x1, x2, x3, x4] (.int v :: .ref a :: st) g mi mr Q = (tw_kd g a = 10 ∧ tw_E sc d 127 97 [x0, x1, x2, x3, x4] st g (tw_st mi a (tw_st (mi a) 2 v)) mr Q) := tw_x_puti td_127_94 to_127 tf_10_89 rfl rfl
theorem td_127_97 : decode (tw_cd 127) 97 = .ok (.aload_n 0, 1) := by decide +kernel
theorem tz_127_97 : tw_E sc d 127 97 [some (.ref a), x1, x2, x3, x4] st g mi mr Q = tw_E sc d 127 98 [some (.ref a), x1, x2, x3, x4] (.ref a :: st) g mi mr Q := tw_x_aload_n td_127_97 rfl
theorem td_127_98 : decode (tw_cd 127) 98 = .ok (.getfield 89, 3) := by decide +kernel
theorem tz_127_98 : tw_E sc d 127 98 [x0, x1, x2, x3, x4] (.ref a :: st) g mi mr Q = (tw_kd g a = 10 ∧ tw_E sc d 127 101 [x0, x1, x2, x3, x4] (.int (mi a 2) :: st) g mi mr Q) := tw_x_geti td_127_98 to_127 tf_10_89 (trf_10_2)
theorem td_127_101 : decode (tw_cd 127) 101 = .ok (.ireturn, 1) := by decide +kernel
theorem tz_127_101 : tw_E sc d 127 101 [x0, x1, x2, x3, x4] ([.int v]) g mi mr Q = Q (some (.int v)) g mi mr := tw_x_iret td_127_101 tr_127
end tz_127
-- 128: Mo_cut
section tz_128
variable {sc : Nat × (Nat → Int32)} {d : Nat} {x0 x1 : Option Value} {st : List Value} {g : tw_G} {mi : tw_I} {mr : tw_Q} {Q : Option Value → tw_G → tw_I → tw_Q → Prop} {v w u : Int32} {a b : Nat} {j h : Int64} {s1 s2 s3 s4 : Value}
theorem td_128_0 : decode (tw_cd 128) 0 = .ok (.aload_n 0, 1) := by decide +kernel
theorem tz_128_0 : tw_E sc d 128 0 [some (.ref a), x1] st g mi mr Q = tw_E sc d 128 1 [some (.ref a), x1] (.ref a :: st) g mi mr Q := tw_x_aload_n td_128_0 rfl
theorem td_128_1 : decode (tw_cd 128) 1 = .ok (.iconst 0, 1) := by decide +kernel
theorem tz_128_1 : tw_E sc d 128 1 [x0, x1] st g mi mr Q = tw_E sc d 128 2 [x0, x1] (.int 0 :: st) g mi mr Q := tw_x_iconst td_128_1 (by decide)
theorem td_128_2 : decode (tw_cd 128) 2 = .ok (.putfield 83, 3) := by decide +kernel
theorem tz_128_2 : tw_E sc d 128 2 [x0, x1] (.int v :: .ref a :: st) g mi mr Q = (tw_kd g a = 10 ∧ tw_E sc d 128 5 [x0, x1] st g (tw_st mi a (tw_st (mi a) 0 v)) mr Q) := tw_x_puti td_128_2 to_128 tf_10_83 rfl rfl
theorem td_128_5 : decode (tw_cd 128) 5 = .ok (.aload_n 0, 1) := by decide +kernel
theorem tz_128_5 : tw_E sc d 128 5 [some (.ref a), x1] st g mi mr Q = tw_E sc d 128 6 [some (.ref a), x1] (.ref a :: st) g mi mr Q := tw_x_aload_n td_128_5 rfl
theorem td_128_6 : decode (tw_cd 128) 6 = .ok (.getfield 89, 3) := by decide +kernel
theorem tz_128_6 : tw_E sc d 128 6 [x0, x1] (.ref a :: st) g mi mr Q = (tw_kd g a = 10 ∧ tw_E sc d 128 9 [x0, x1] (.int (mi a 2) :: st) g mi mr Q) := tw_x_geti td_128_6 to_128 tf_10_89 (trf_10_2)
theorem td_128_9 : decode (tw_cd 128) 9 = .ok (.istore_n 1, 1) := by decide +kernel
theorem tz_128_9 : tw_E sc d 128 9 [x0, x1] (.int v :: st) g mi mr Q = tw_E sc d 128 10 [x0, some (.int v)] st g mi mr Q := tw_x_istore_n td_128_9 tp_128 rfl
theorem td_128_10 : decode (tw_cd 128) 10 = .ok (.aload_n 0, 1) := by decide +kernel
theorem tz_128_10 : tw_E sc d 128 10 [some (.ref a), x1] st g mi mr Q = tw_E sc d 128 11 [some (.ref a), x1] (.ref a :: st) g mi mr Q := tw_x_aload_n td_128_10 rfl
theorem td_128_11 : decode (tw_cd 128) 11 = .ok (.iconst 0, 1) := by decide +kernel
theorem tz_128_11 : tw_E sc d 128 11 [x0, x1] st g mi mr Q = tw_E sc d 128 12 [x0, x1] (.int 0 :: st) g mi mr Q := tw_x_iconst td_128_11 (by decide)
theorem td_128_12 : decode (tw_cd 128) 12 = .ok (.putfield 89, 3) := by decide +kernel
theorem tz_128_12 : tw_E sc d 128 12 [x0, x1] (.int v :: .ref a :: st) g mi mr Q = (tw_kd g a = 10 ∧ tw_E sc d 128 15 [x0, x1] st g (tw_st mi a (tw_st (mi a) 2 v)) mr Q) := tw_x_puti td_128_12 to_128 tf_10_89 rfl rfl
theorem td_128_15 : decode (tw_cd 128) 15 = .ok (.iload_n 1, 1) := by decide +kernel
theorem tz_128_15 : tw_E sc d 128 15 [x0, some (.int v)] st g mi mr Q = tw_E sc d 128 16 [x0, some (.int v)] (.int v :: st) g mi mr Q := tw_x_iload_n td_128_15 rfl
theorem td_128_16 : decode (tw_cd 128) 16 = .ok (.ireturn, 1) := by decide +kernel
theorem tz_128_16 : tw_E sc d 128 16 [x0, x1] ([.int v]) g mi mr Q = Q (some (.int v)) g mi mr := tw_x_iret td_128_16 tr_128
end tz_128
-- 129: Mo_isDigit
section tz_129
variable {sc : Nat × (Nat → Int32)} {d : Nat} {x0 x1 : Option Value} {st : List Value} {g : tw_G} {mi : tw_I} {mr : tw_Q} {Q : Option Value → tw_G → tw_I → tw_Q → Prop} {v w u : Int32} {a b : Nat} {j h : Int64} {s1 s2 s3 s4 : Value}
theorem td_129_0 : decode (tw_cd 129) 0 = .ok (.iload_n 1, 1) := by decide +kernel
theorem tz_129_0 : tw_E sc d 129 0 [x0, some (.int v)] st g mi mr Q = tw_E sc d 129 1 [x0, some (.int v)] (.int v :: st) g mi mr Q := tw_x_iload_n td_129_0 rfl
theorem td_129_1 : decode (tw_cd 129) 1 = .ok (.aload_n 0, 1) := by decide +kernel
theorem tz_129_1 : tw_E sc d 129 1 [some (.ref a), x1] st g mi mr Q = tw_E sc d 129 2 [some (.ref a), x1] (.ref a :: st) g mi mr Q := tw_x_aload_n td_129_1 rfl
theorem td_129_2 : decode (tw_cd 129) 2 = .ok (.getfield 89, 3) := by decide +kernel
theorem tz_129_2 : tw_E sc d 129 2 [x0, x1] (.ref a :: st) g mi mr Q = (tw_kd g a = 10 ∧ tw_E sc d 129 5 [x0, x1] (.int (mi a 2) :: st) g mi mr Q) := tw_x_geti td_129_2 to_129 tf_10_89 (trf_10_2)
theorem td_129_5 : decode (tw_cd 129) 5 = .ok (.if_icmp .ge 26, 3) := by decide +kernel
theorem tz_129_5 : tw_E sc d 129 5 [x0, x1] (.int w :: .int v :: st) g mi mr Q = if w ≤ v then tw_E sc d 129 31 [x0, x1] st g mi mr Q else tw_E sc d 129 8 [x0, x1] st g mi mr Q := tw_x_ic_ge td_129_5 (by decide)
theorem td_129_8 : decode (tw_cd 129) 8 = .ok (.aload_n 0, 1) := by decide +kernel
theorem tz_129_8 : tw_E sc d 129 8 [some (.ref a), x1] st g mi mr Q = tw_E sc d 129 9 [some (.ref a), x1] (.ref a :: st) g mi mr Q := tw_x_aload_n td_129_8 rfl
theorem td_129_9 : decode (tw_cd 129) 9 = .ok (.getfield 7, 3) := by decide +kernel
theorem tz_129_9 : tw_E sc d 129 9 [x0, x1] (.ref a :: st) g mi mr Q = (tw_kd g a = 10 ∧ tw_E sc d 129 12 [x0, x1] (va_rf (mr a 1) :: st) g mi mr Q) := tw_x_getr td_129_9 to_129 tf_10_7 (trf_10_1)
theorem td_129_12 : decode (tw_cd 129) 12 = .ok (.iload_n 1, 1) := by decide +kernel
theorem tz_129_12 : tw_E sc d 129 12 [x0, some (.int v)] st g mi mr Q = tw_E sc d 129 13 [x0, some (.int v)] (.int v :: st) g mi mr Q := tw_x_iload_n td_129_12 rfl
theorem td_129_13 : decode (tw_cd 129) 13 = .ok (.iaload, 1) := by decide +kernel
theorem tz_129_13 : tw_E sc d 129 13 [x0, x1] (.int v :: .ref a :: st) g mi mr Q = ((tw_kd g a = 20 ∧ vp_in v (tw_ln g a)) ∧ tw_E sc d 129 14 [x0, x1] (.int (mi a v.toNatClampNeg) :: st) g mi mr Q) := tw_x_iald td_129_13
theorem td_129_14 : decode (tw_cd 129) 14 = .ok (.i2l, 1) := by decide +kernel
theorem tz_129_14 : tw_E sc d 129 14 [x0, x1] (.int v :: st) g mi mr Q = tw_E sc d 129 15 [x0, x1] (.long v.toInt64 :: st) g mi mr Q := tw_x_i2l td_129_14
theorem td_129_15 : decode (tw_cd 129) 15 = .ok (.ldc2_w 92, 3) := by decide +kernel
theorem tz_129_15 : tw_E sc d 129 15 [x0, x1] st g mi mr Q = tw_E sc d 129 18 [x0, x1] (.long 48 :: st) g mi mr Q := tw_x_ldl td_129_15 to_129 tl_10_92
theorem td_129_18 : decode (tw_cd 129) 18 = .ok (.ldc2_w 94, 3) := by decide +kernel
theorem tz_129_18 : tw_E sc d 129 18 [x0, x1] st g mi mr Q = tw_E sc d 129 21 [x0, x1] (.long 57 :: st) g mi mr Q := tw_x_ldl td_129_18 to_129 tl_10_94
theorem td_129_21 : decode (tw_cd 129) 21 = .ok (.invokestatic 96, 3) := by decide +kernel
theorem tz_129_21 {a0 : Int64} {a1 : Int64} {a2 : Int64} : tw_E sc (d + 1) 129 21 [x0, x1] ([.long a2, .long a1, .long a0]) g mi mr Q = tw_E sc d 126 0 [some (.long a0), none, some (.long a1), none, some (.long a2), none] [] g mi mr (tw_K sc (d + 1) 129 24 [x0, x1] [] Q) := tw_x_cs (as := [.long a0, .long a1, .long a2]) (r := []) td_129_21 to_129 tmn_10_96 tc_10_96 rfl rfl rfl rfl rfl
theorem td_129_24 : decode (tw_cd 129) 24 = .ok (.ifCond .eq 7, 3) := by decide +kernel
theorem tz_129_24 : tw_E sc d 129 24 [x0, x1] (.int v :: st) g mi mr Q = if v = 0 then tw_E sc d 129 31 [x0, x1] st g mi mr Q else tw_E sc d 129 27 [x0, x1] st g mi mr Q := tw_x_if_eq td_129_24 (by decide)
theorem td_129_27 : decode (tw_cd 129) 27 = .ok (.iconst 1, 1) := by decide +kernel
theorem tz_129_27 : tw_E sc d 129 27 [x0, x1] st g mi mr Q = tw_E sc d 129 28 [x0, x1] (.int 1 :: st) g mi mr Q := tw_x_iconst td_129_27 (by decide)
theorem td_129_28 : decode (tw_cd 129) 28 = .ok (.goto 4, 3) := by decide +kernel
theorem tz_129_28 : tw_E sc d 129 28 [x0, x1] st g mi mr Q = tw_E sc d 129 32 [x0, x1] st g mi mr Q := tw_x_goto td_129_28 (by decide)
theorem td_129_31 : decode (tw_cd 129) 31 = .ok (.iconst 0, 1) := by decide +kernel
theorem tz_129_31 : tw_E sc d 129 31 [x0, x1] st g mi mr Q = tw_E sc d 129 32 [x0, x1] (.int 0 :: st) g mi mr Q := tw_x_iconst td_129_31 (by decide)
theorem td_129_32 : decode (tw_cd 129) 32 = .ok (.ireturn, 1) := by decide +kernel
theorem tz_129_32 : tw_E sc d 129 32 [x0, x1] ([.int v]) g mi mr Q = ((v = 0 ∨ v = 1) ∧ Q (some (.int v)) g mi mr) := tw_x_zret td_129_32 tr_129
end tz_129
-- 130: Mo_isSignByte
section tz_130
variable {sc : Nat × (Nat → Int32)} {d : Nat} {x0 : Option Value} {st : List Value} {g : tw_G} {mi : tw_I} {mr : tw_Q} {Q : Option Value → tw_G → tw_I → tw_Q → Prop} {v w u : Int32} {a b : Nat} {j h : Int64} {s1 s2 s3 s4 : Value}
theorem td_130_0 : decode (tw_cd 130) 0 = .ok (.iload_n 0, 1) := by decide +kernel
theorem tz_130_0 : tw_E sc d 130 0 [some (.int v)] st g mi mr Q = tw_E sc d 130 1 [some (.int v)] (.int v :: st) g mi mr Q := tw_x_iload_n td_130_0 rfl
theorem td_130_1 : decode (tw_cd 130) 1 = .ok (.bipush 59, 2) := by decide +kernel
theorem tz_130_1 : tw_E sc d 130 1 [x0] st g mi mr Q = tw_E sc d 130 3 [x0] (.int 59 :: st) g mi mr Q := tw_x_bipush td_130_1 (by decide)
theorem td_130_3 : decode (tw_cd 130) 3 = .ok (.if_icmp .eq 69, 3) := by decide +kernel
theorem tz_130_3 : tw_E sc d 130 3 [x0] (.int w :: .int v :: st) g mi mr Q = if v = w then tw_E sc d 130 72 [x0] st g mi mr Q else tw_E sc d 130 6 [x0] st g mi mr Q := tw_x_ic_eq td_130_3 (by decide)
theorem td_130_6 : decode (tw_cd 130) 6 = .ok (.iload_n 0, 1) := by decide +kernel
theorem tz_130_6 : tw_E sc d 130 6 [some (.int v)] st g mi mr Q = tw_E sc d 130 7 [some (.int v)] (.int v :: st) g mi mr Q := tw_x_iload_n td_130_6 rfl
theorem td_130_7 : decode (tw_cd 130) 7 = .ok (.bipush 58, 2) := by decide +kernel
theorem tz_130_7 : tw_E sc d 130 7 [x0] st g mi mr Q = tw_E sc d 130 9 [x0] (.int 58 :: st) g mi mr Q := tw_x_bipush td_130_7 (by decide)
theorem td_130_9 : decode (tw_cd 130) 9 = .ok (.if_icmp .eq 63, 3) := by decide +kernel
theorem tz_130_9 : tw_E sc d 130 9 [x0] (.int w :: .int v :: st) g mi mr Q = if v = w then tw_E sc d 130 72 [x0] st g mi mr Q else tw_E sc d 130 12 [x0] st g mi mr Q := tw_x_ic_eq td_130_9 (by decide)
theorem td_130_12 : decode (tw_cd 130) 12 = .ok (.iload_n 0, 1) := by decide +kernel
theorem tz_130_12 : tw_E sc d 130 12 [some (.int v)] st g mi mr Q = tw_E sc d 130 13 [some (.int v)] (.int v :: st) g mi mr Q := tw_x_iload_n td_130_12 rfl
theorem td_130_13 : decode (tw_cd 130) 13 = .ok (.bipush 44, 2) := by decide +kernel
theorem tz_130_13 : tw_E sc d 130 13 [x0] st g mi mr Q = tw_E sc d 130 15 [x0] (.int 44 :: st) g mi mr Q := tw_x_bipush td_130_13 (by decide)
theorem td_130_15 : decode (tw_cd 130) 15 = .ok (.if_icmp .eq 57, 3) := by decide +kernel
theorem tz_130_15 : tw_E sc d 130 15 [x0] (.int w :: .int v :: st) g mi mr Q = if v = w then tw_E sc d 130 72 [x0] st g mi mr Q else tw_E sc d 130 18 [x0] st g mi mr Q := tw_x_ic_eq td_130_15 (by decide)
theorem td_130_18 : decode (tw_cd 130) 18 = .ok (.iload_n 0, 1) := by decide +kernel
theorem tz_130_18 : tw_E sc d 130 18 [some (.int v)] st g mi mr Q = tw_E sc d 130 19 [some (.int v)] (.int v :: st) g mi mr Q := tw_x_iload_n td_130_18 rfl
theorem td_130_19 : decode (tw_cd 130) 19 = .ok (.bipush 47, 2) := by decide +kernel
theorem tz_130_19 : tw_E sc d 130 19 [x0] st g mi mr Q = tw_E sc d 130 21 [x0] (.int 47 :: st) g mi mr Q := tw_x_bipush td_130_19 (by decide)
theorem td_130_21 : decode (tw_cd 130) 21 = .ok (.if_icmp .eq 51, 3) := by decide +kernel
theorem tz_130_21 : tw_E sc d 130 21 [x0] (.int w :: .int v :: st) g mi mr Q = if v = w then tw_E sc d 130 72 [x0] st g mi mr Q else tw_E sc d 130 24 [x0] st g mi mr Q := tw_x_ic_eq td_130_21 (by decide)
theorem td_130_24 : decode (tw_cd 130) 24 = .ok (.iload_n 0, 1) := by decide +kernel
theorem tz_130_24 : tw_E sc d 130 24 [some (.int v)] st g mi mr Q = tw_E sc d 130 25 [some (.int v)] (.int v :: st) g mi mr Q := tw_x_iload_n td_130_24 rfl
theorem td_130_25 : decode (tw_cd 130) 25 = .ok (.bipush 38, 2) := by decide +kernel
theorem tz_130_25 : tw_E sc d 130 25 [x0] st g mi mr Q = tw_E sc d 130 27 [x0] (.int 38 :: st) g mi mr Q := tw_x_bipush td_130_25 (by decide)
theorem td_130_27 : decode (tw_cd 130) 27 = .ok (.if_icmp .eq 45, 3) := by decide +kernel
theorem tz_130_27 : tw_E sc d 130 27 [x0] (.int w :: .int v :: st) g mi mr Q = if v = w then tw_E sc d 130 72 [x0] st g mi mr Q else tw_E sc d 130 30 [x0] st g mi mr Q := tw_x_ic_eq td_130_27 (by decide)
theorem td_130_30 : decode (tw_cd 130) 30 = .ok (.iload_n 0, 1) := by decide +kernel
theorem tz_130_30 : tw_E sc d 130 30 [some (.int v)] st g mi mr Q = tw_E sc d 130 31 [some (.int v)] (.int v :: st) g mi mr Q := tw_x_iload_n td_130_30 rfl
theorem td_130_31 : decode (tw_cd 130) 31 = .ok (.bipush 42, 2) := by decide +kernel
theorem tz_130_31 : tw_E sc d 130 31 [x0] st g mi mr Q = tw_E sc d 130 33 [x0] (.int 42 :: st) g mi mr Q := tw_x_bipush td_130_31 (by decide)
theorem td_130_33 : decode (tw_cd 130) 33 = .ok (.if_icmp .eq 39, 3) := by decide +kernel
theorem tz_130_33 : tw_E sc d 130 33 [x0] (.int w :: .int v :: st) g mi mr Q = if v = w then tw_E sc d 130 72 [x0] st g mi mr Q else tw_E sc d 130 36 [x0] st g mi mr Q := tw_x_ic_eq td_130_33 (by decide)
theorem td_130_36 : decode (tw_cd 130) 36 = .ok (.iload_n 0, 1) := by decide +kernel
theorem tz_130_36 : tw_E sc d 130 36 [some (.int v)] st g mi mr Q = tw_E sc d 130 37 [some (.int v)] (.int v :: st) g mi mr Q := tw_x_iload_n td_130_36 rfl
theorem td_130_37 : decode (tw_cd 130) 37 = .ok (.bipush 33, 2) := by decide +kernel
theorem tz_130_37 : tw_E sc d 130 37 [x0] st g mi mr Q = tw_E sc d 130 39 [x0] (.int 33 :: st) g mi mr Q := tw_x_bipush td_130_37 (by decide)
theorem td_130_39 : decode (tw_cd 130) 39 = .ok (.if_icmp .eq 33, 3) := by decide +kernel
theorem tz_130_39 : tw_E sc d 130 39 [x0] (.int w :: .int v :: st) g mi mr Q = if v = w then tw_E sc d 130 72 [x0] st g mi mr Q else tw_E sc d 130 42 [x0] st g mi mr Q := tw_x_ic_eq td_130_39 (by decide)
theorem td_130_42 : decode (tw_cd 130) 42 = .ok (.iload_n 0, 1) := by decide +kernel
theorem tz_130_42 : tw_E sc d 130 42 [some (.int v)] st g mi mr Q = tw_E sc d 130 43 [some (.int v)] (.int v :: st) g mi mr Q := tw_x_iload_n td_130_42 rfl
theorem td_130_43 : decode (tw_cd 130) 43 = .ok (.bipush 43, 2) := by decide +kernel
theorem tz_130_43 : tw_E sc d 130 43 [x0] st g mi mr Q = tw_E sc d 130 45 [x0] (.int 43 :: st) g mi mr Q := tw_x_bipush td_130_43 (by decide)
theorem td_130_45 : decode (tw_cd 130) 45 = .ok (.if_icmp .eq 27, 3) := by decide +kernel
theorem tz_130_45 : tw_E sc d 130 45 [x0] (.int w :: .int v :: st) g mi mr Q = if v = w then tw_E sc d 130 72 [x0] st g mi mr Q else tw_E sc d 130 48 [x0] st g mi mr Q := tw_x_ic_eq td_130_45 (by decide)
theorem td_130_48 : decode (tw_cd 130) 48 = .ok (.iload_n 0, 1) := by decide +kernel
theorem tz_130_48 : tw_E sc d 130 48 [some (.int v)] st g mi mr Q = tw_E sc d 130 49 [some (.int v)] (.int v :: st) g mi mr Q := tw_x_iload_n td_130_48 rfl
theorem td_130_49 : decode (tw_cd 130) 49 = .ok (.bipush 45, 2) := by decide +kernel
theorem tz_130_49 : tw_E sc d 130 49 [x0] st g mi mr Q = tw_E sc d 130 51 [x0] (.int 45 :: st) g mi mr Q := tw_x_bipush td_130_49 (by decide)
theorem td_130_51 : decode (tw_cd 130) 51 = .ok (.if_icmp .eq 21, 3) := by decide +kernel
theorem tz_130_51 : tw_E sc d 130 51 [x0] (.int w :: .int v :: st) g mi mr Q = if v = w then tw_E sc d 130 72 [x0] st g mi mr Q else tw_E sc d 130 54 [x0] st g mi mr Q := tw_x_ic_eq td_130_51 (by decide)
theorem td_130_54 : decode (tw_cd 130) 54 = .ok (.iload_n 0, 1) := by decide +kernel
theorem tz_130_54 : tw_E sc d 130 54 [some (.int v)] st g mi mr Q = tw_E sc d 130 55 [some (.int v)] (.int v :: st) g mi mr Q := tw_x_iload_n td_130_54 rfl
theorem td_130_55 : decode (tw_cd 130) 55 = .ok (.bipush 126, 2) := by decide +kernel
theorem tz_130_55 : tw_E sc d 130 55 [x0] st g mi mr Q = tw_E sc d 130 57 [x0] (.int 126 :: st) g mi mr Q := tw_x_bipush td_130_55 (by decide)
theorem td_130_57 : decode (tw_cd 130) 57 = .ok (.if_icmp .eq 15, 3) := by decide +kernel
theorem tz_130_57 : tw_E sc d 130 57 [x0] (.int w :: .int v :: st) g mi mr Q = if v = w then tw_E sc d 130 72 [x0] st g mi mr Q else tw_E sc d 130 60 [x0] st g mi mr Q := tw_x_ic_eq td_130_57 (by decide)
theorem td_130_60 : decode (tw_cd 130) 60 = .ok (.iload_n 0, 1) := by decide +kernel
theorem tz_130_60 : tw_E sc d 130 60 [some (.int v)] st g mi mr Q = tw_E sc d 130 61 [some (.int v)] (.int v :: st) g mi mr Q := tw_x_iload_n td_130_60 rfl
theorem td_130_61 : decode (tw_cd 130) 61 = .ok (.bipush 40, 2) := by decide +kernel
theorem tz_130_61 : tw_E sc d 130 61 [x0] st g mi mr Q = tw_E sc d 130 63 [x0] (.int 40 :: st) g mi mr Q := tw_x_bipush td_130_61 (by decide)
theorem td_130_63 : decode (tw_cd 130) 63 = .ok (.if_icmp .eq 9, 3) := by decide +kernel
theorem tz_130_63 : tw_E sc d 130 63 [x0] (.int w :: .int v :: st) g mi mr Q = if v = w then tw_E sc d 130 72 [x0] st g mi mr Q else tw_E sc d 130 66 [x0] st g mi mr Q := tw_x_ic_eq td_130_63 (by decide)
theorem td_130_66 : decode (tw_cd 130) 66 = .ok (.iload_n 0, 1) := by decide +kernel
theorem tz_130_66 : tw_E sc d 130 66 [some (.int v)] st g mi mr Q = tw_E sc d 130 67 [some (.int v)] (.int v :: st) g mi mr Q := tw_x_iload_n td_130_66 rfl
theorem td_130_67 : decode (tw_cd 130) 67 = .ok (.bipush 41, 2) := by decide +kernel
theorem tz_130_67 : tw_E sc d 130 67 [x0] st g mi mr Q = tw_E sc d 130 69 [x0] (.int 41 :: st) g mi mr Q := tw_x_bipush td_130_67 (by decide)
theorem td_130_69 : decode (tw_cd 130) 69 = .ok (.if_icmp .ne 7, 3) := by decide +kernel
theorem tz_130_69 : tw_E sc d 130 69 [x0] (.int w :: .int v :: st) g mi mr Q = if ¬ v = w then tw_E sc d 130 76 [x0] st g mi mr Q else tw_E sc d 130 72 [x0] st g mi mr Q := tw_x_ic_ne td_130_69 (by decide)
theorem td_130_72 : decode (tw_cd 130) 72 = .ok (.iconst 1, 1) := by decide +kernel
theorem tz_130_72 : tw_E sc d 130 72 [x0] st g mi mr Q = tw_E sc d 130 73 [x0] (.int 1 :: st) g mi mr Q := tw_x_iconst td_130_72 (by decide)
theorem td_130_73 : decode (tw_cd 130) 73 = .ok (.goto 4, 3) := by decide +kernel
theorem tz_130_73 : tw_E sc d 130 73 [x0] st g mi mr Q = tw_E sc d 130 77 [x0] st g mi mr Q := tw_x_goto td_130_73 (by decide)
theorem td_130_76 : decode (tw_cd 130) 76 = .ok (.iconst 0, 1) := by decide +kernel
theorem tz_130_76 : tw_E sc d 130 76 [x0] st g mi mr Q = tw_E sc d 130 77 [x0] (.int 0 :: st) g mi mr Q := tw_x_iconst td_130_76 (by decide)
theorem td_130_77 : decode (tw_cd 130) 77 = .ok (.ireturn, 1) := by decide +kernel
theorem tz_130_77 : tw_E sc d 130 77 [x0] ([.int v]) g mi mr Q = ((v = 0 ∨ v = 1) ∧ Q (some (.int v)) g mi mr) := tw_x_zret td_130_77 tr_130
end tz_130
