/-! a row for each instruction: printed by wip/whole/gen3.py -/
-- 162: Mo_run
section tz_162
variable {sc : Nat × (Nat → Int32)} {d : Nat} {x0 x1 x2 x3 x4 x5 x6 : Option Value} {st : List Value} {g : tw_G} {mi : tw_I} {mr : tw_Q} {Q : Option Value → tw_G → tw_I → tw_Q → Prop} {v w u : Int32} {a b : Nat} {j h : Int64} {s1 s2 s3 s4 : Value}
theorem td_162_0 : decode (tw_cd 162) 0 = .ok (.aload_n 0, 1) := by decide +kernel
theorem tz_162_0 : tw_E sc d 162 0 [some (.ref a), x1, x2, x3, x4, x5, x6] st g mi mr Q = tw_E sc d 162 1 [some (.ref a), x1, x2, x3, x4, x5, x6] (.ref a :: st) g mi mr Q := tw_x_aload_n td_162_0 rfl
theorem td_162_1 : decode (tw_cd 162) 1 = .ok (.iconst 0, 1) := by decide +kernel
theorem tz_162_1 : tw_E sc d 162 1 [x0, x1, x2, x3, x4, x5, x6] st g mi mr Q = tw_E sc d 162 2 [x0, x1, x2, x3, x4, x5, x6] (.int 0 :: st) g mi mr Q := tw_x_iconst td_162_1 (by decide)
theorem td_162_2 : decode (tw_cd 162) 2 = .ok (.putfield 83, 3) := by decide +kernel
theorem tz_162_2 : tw_E sc d 162 2 [x0, x1, x2, x3, x4, x5, x6] (.int v :: .ref a :: st) g mi mr Q = (tw_kd g a = 10 ∧ tw_E sc d 162 5 [x0, x1, x2, x3, x4, x5, x6] st g (tw_st mi a (tw_st (mi a) 0 v)) mr Q) := tw_x_puti td_162_2 to_162 tf_10_83 rfl rfl
theorem td_162_5 : decode (tw_cd 162) 5 = .ok (.iload_n 1, 1) := by decide +kernel
theorem tz_162_5 : tw_E sc d 162 5 [x0, some (.int v), x2, x3, x4, x5, x6] st g mi mr Q = tw_E sc d 162 6 [x0, some (.int v), x2, x3, x4, x5, x6] (.int v :: st) g mi mr Q := tw_x_iload_n td_162_5 rfl
theorem td_162_6 : decode (tw_cd 162) 6 = .ok (.i2l, 1) := by decide +kernel
theorem tz_162_6 : tw_E sc d 162 6 [x0, x1, x2, x3, x4, x5, x6] (.int v :: st) g mi mr Q = tw_E sc d 162 7 [x0, x1, x2, x3, x4, x5, x6] (.long v.toInt64 :: st) g mi mr Q := tw_x_i2l td_162_6
theorem td_162_7 : decode (tw_cd 162) 7 = .ok (.lconst 0, 1) := by decide +kernel
theorem tz_162_7 : tw_E sc d 162 7 [x0, x1, x2, x3, x4, x5, x6] st g mi mr Q = tw_E sc d 162 8 [x0, x1, x2, x3, x4, x5, x6] (.long 0 :: st) g mi mr Q := tw_x_lconst td_162_7 (by decide)
theorem td_162_8 : decode (tw_cd 162) 8 = .ok (.aload_n 0, 1) := by decide +kernel
theorem tz_162_8 : tw_E sc d 162 8 [some (.ref a), x1, x2, x3, x4, x5, x6] st g mi mr Q = tw_E sc d 162 9 [some (.ref a), x1, x2, x3, x4, x5, x6] (.ref a :: st) g mi mr Q := tw_x_aload_n td_162_8 rfl
theorem td_162_9 : decode (tw_cd 162) 9 = .ok (.ldc 221, 2) := by decide +kernel
theorem tz_162_9 : tw_E sc d 162 9 [x0, x1, x2, x3, x4, x5, x6] st g mi mr Q = tw_E sc d 162 11 [x0, x1, x2, x3, x4, x5, x6] (.int 65535 :: st) g mi mr Q := tw_x_ldc td_162_9 to_162 tl_10_221
theorem td_162_11 : decode (tw_cd 162) 11 = .ok (.invokevirtual 222, 3) := by decide +kernel
theorem tz_162_11 {a0 : Int32} : tw_E sc (d + 1) 162 11 [x0, x1, x2, x3, x4, x5, x6] ([.int a0, .ref a, s1, s2]) g mi mr Q = (tw_kd g a = 10 ∧ tw_E sc d 160 0 [some (.ref a), some (.int a0), none, none] [] g mi mr (tw_K sc (d + 1) 162 14 [x0, x1, x2, x3, x4, x5, x6] [s1, s2] Q)) := tw_x_cv (as := [.int a0]) (r := [s1, s2]) td_162_11 to_162 tc_10_222 to_160 rfl rfl rfl rfl
theorem td_162_14 : decode (tw_cd 162) 14 = .ok (.iconst 1, 1) := by decide +kernel
theorem tz_162_14 : tw_E sc d 162 14 [x0, x1, x2, x3, x4, x5, x6] st g mi mr Q = tw_E sc d 162 15 [x0, x1, x2, x3, x4, x5, x6] (.int 1 :: st) g mi mr Q := tw_x_iconst td_162_14 (by decide)
theorem td_162_15 : decode (tw_cd 162) 15 = .ok (.isub, 1) := by decide +kernel
theorem tz_162_15 : tw_E sc d 162 15 [x0, x1, x2, x3, x4, x5, x6] (.int w :: .int v :: st) g mi mr Q = tw_E sc d 162 16 [x0, x1, x2, x3, x4, x5, x6] (.int (v - w) :: st) g mi mr Q := tw_x_isub td_162_15
theorem td_162_16 : decode (tw_cd 162) 16 = .ok (.i2l, 1) := by decide +kernel
theorem tz_162_16 : tw_E sc d 162 16 [x0, x1, x2, x3, x4, x5, x6] (.int v :: st) g mi mr Q = tw_E sc d 162 17 [x0, x1, x2, x3, x4, x5, x6] (.long v.toInt64 :: st) g mi mr Q := tw_x_i2l td_162_16
theorem td_162_17 : decode (tw_cd 162) 17 = .ok (.invokestatic 96, 3) := by decide +kernel
theorem tz_162_17 {a0 : Int64} {a1 : Int64} {a2 : Int64} : tw_E sc (d + 1) 162 17 [x0, x1, x2, x3, x4, x5, x6] ([.long a2, .long a1, .long a0]) g mi mr Q = tw_E sc d 126 0 [some (.long a0), none, some (.long a1), none, some (.long a2), none] [] g mi mr (tw_K sc (d + 1) 162 20 [x0, x1, x2, x3, x4, x5, x6] [] Q) := tw_x_cs (as := [.long a0, .long a1, .long a2]) (r := []) td_162_17 to_162 tmn_10_96 tc_10_96 rfl rfl rfl rfl rfl
theorem td_162_20 : decode (tw_cd 162) 20 = .ok (.ifCond .ne 5, 3) := by decide +kernel
theorem tz_162_20 : tw_E sc d 162 20 [x0, x1, x2, x3, x4, x5, x6] (.int v :: st) g mi mr Q = if ¬ v = 0 then tw_E sc d 162 25 [x0, x1, x2, x3, x4, x5, x6] st g mi mr Q else tw_E sc d 162 23 [x0, x1, x2, x3, x4, x5, x6] st g mi mr Q := tw_x_if_ne td_162_20 (by decide)
theorem td_162_23 : decode (tw_cd 162) 23 = .ok (.iconst (-1), 1) := by decide +kernel
theorem tz_162_23 : tw_E sc d 162 23 [x0, x1, x2, x3, x4, x5, x6] st g mi mr Q = tw_E sc d 162 24 [x0, x1, x2, x3, x4, x5, x6] (.int (-1) :: st) g mi mr Q := tw_x_iconst td_162_23 (by decide)
theorem td_162_24 : decode (tw_cd 162) 24 = .ok (.ireturn, 1) := by decide +kernel
theorem tz_162_24 : tw_E sc d 162 24 [x0, x1, x2, x3, x4, x5, x6] ([.int v]) g mi mr Q = Q (some (.int v)) g mi mr := tw_x_iret td_162_24 tr_162
theorem td_162_25 : decode (tw_cd 162) 25 = .ok (.iload_n 2, 1) := by decide +kernel
theorem tz_162_25 : tw_E sc d 162 25 [x0, x1, some (.int v), x3, x4, x5, x6] st g mi mr Q = tw_E sc d 162 26 [x0, x1, some (.int v), x3, x4, x5, x6] (.int v :: st) g mi mr Q := tw_x_iload_n td_162_25 rfl
theorem td_162_26 : decode (tw_cd 162) 26 = .ok (.i2l, 1) := by decide +kernel
theorem tz_162_26 : tw_E sc d 162 26 [x0, x1, x2, x3, x4, x5, x6] (.int v :: st) g mi mr Q = tw_E sc d 162 27 [x0, x1, x2, x3, x4, x5, x6] (.long v.toInt64 :: st) g mi mr Q := tw_x_i2l td_162_26
theorem td_162_27 : decode (tw_cd 162) 27 = .ok (.lconst 0, 1) := by decide +kernel
theorem tz_162_27 : tw_E sc d 162 27 [x0, x1, x2, x3, x4, x5, x6] st g mi mr Q = tw_E sc d 162 28 [x0, x1, x2, x3, x4, x5, x6] (.long 0 :: st) g mi mr Q := tw_x_lconst td_162_27 (by decide)
theorem td_162_28 : decode (tw_cd 162) 28 = .ok (.lconst 1, 1) := by decide +kernel
theorem tz_162_28 : tw_E sc d 162 28 [x0, x1, x2, x3, x4, x5, x6] st g mi mr Q = tw_E sc d 162 29 [x0, x1, x2, x3, x4, x5, x6] (.long 1 :: st) g mi mr Q := tw_x_lconst td_162_28 (by decide)
theorem td_162_29 : decode (tw_cd 162) 29 = .ok (.invokestatic 96, 3) := by decide +kernel
theorem tz_162_29 {a0 : Int64} {a1 : Int64} {a2 : Int64} : tw_E sc (d + 1) 162 29 [x0, x1, x2, x3, x4, x5, x6] ([.long a2, .long a1, .long a0]) g mi mr Q = tw_E sc d 126 0 [some (.long a0), none, some (.long a1), none, some (.long a2), none] [] g mi mr (tw_K sc (d + 1) 162 32 [x0, x1, x2, x3, x4, x5, x6] [] Q) := tw_x_cs (as := [.long a0, .long a1, .long a2]) (r := []) td_162_29 to_162 tmn_10_96 tc_10_96 rfl rfl rfl rfl rfl
theorem td_162_32 : decode (tw_cd 162) 32 = .ok (.ifCond .ne 6, 3) := by decide +kernel
theorem tz_162_32 : tw_E sc d 162 32 [x0, x1, x2, x3, x4, x5, x6] (.int v :: st) g mi mr Q = if ¬ v = 0 then tw_E sc d 162 38 [x0, x1, x2, x3, x4, x5, x6] st g mi mr Q else tw_E sc d 162 35 [x0, x1, x2, x3, x4, x5, x6] st g mi mr Q := tw_x_if_ne td_162_32 (by decide)
theorem td_162_35 : decode (tw_cd 162) 35 = .ok (.bipush (-2), 2) := by decide +kernel
theorem tz_162_35 : tw_E sc d 162 35 [x0, x1, x2, x3, x4, x5, x6] st g mi mr Q = tw_E sc d 162 37 [x0, x1, x2, x3, x4, x5, x6] (.int (-2) :: st) g mi mr Q := tw_x_bipush td_162_35 (by decide)
theorem td_162_37 : decode (tw_cd 162) 37 = .ok (.ireturn, 1) := by decide +kernel
theorem tz_162_37 : tw_E sc d 162 37 [x0, x1, x2, x3, x4, x5, x6] ([.int v]) g mi mr Q = Q (some (.int v)) g mi mr := tw_x_iret td_162_37 tr_162
theorem td_162_38 : decode (tw_cd 162) 38 = .ok (.iconst (-1), 1) := by decide +kernel
theorem tz_162_38 : tw_E sc d 162 38 [x0, x1, x2, x3, x4, x5, x6] st g mi mr Q = tw_E sc d 162 39 [x0, x1, x2, x3, x4, x5, x6] (.int (-1) :: st) g mi mr Q := tw_x_iconst td_162_38 (by decide)
theorem td_162_39 : decode (tw_cd 162) 39 = .ok (.istore_n 3, 1) := by decide +kernel
theorem tz_162_39 : tw_E sc d 162 39 [x0, x1, x2, x3, x4, x5, x6] (.int v :: st) g mi mr Q = tw_E sc d 162 40 [x0, x1, x2, some (.int v), x4, x5, x6] st g mi mr Q := tw_x_istore_n td_162_39 tp_162 rfl
theorem td_162_40 : decode (tw_cd 162) 40 = .ok (.iconst 0, 1) := by decide +kernel
theorem tz_162_40 : tw_E sc d 162 40 [x0, x1, x2, x3, x4, x5, x6] st g mi mr Q = tw_E sc d 162 41 [x0, x1, x2, x3, x4, x5, x6] (.int 0 :: st) g mi mr Q := tw_x_iconst td_162_40 (by decide)
theorem td_162_41 : decode (tw_cd 162) 41 = .ok (.istore 4, 2) := by decide +kernel
theorem tz_162_41 : tw_E sc d 162 41 [x0, x1, x2, x3, x4, x5, x6] (.int v :: st) g mi mr Q = tw_E sc d 162 43 [x0, x1, x2, x3, some (.int v), x5, x6] st g mi mr Q := tw_x_istore td_162_41 tp_162 rfl
theorem td_162_43 : decode (tw_cd 162) 43 = .ok (.iconst 0, 1) := by decide +kernel
theorem tz_162_43 : tw_E sc d 162 43 [x0, x1, x2, x3, x4, x5, x6] st g mi mr Q = tw_E sc d 162 44 [x0, x1, x2, x3, x4, x5, x6] (.int 0 :: st) g mi mr Q := tw_x_iconst td_162_43 (by decide)
theorem td_162_44 : decode (tw_cd 162) 44 = .ok (.istore 5, 2) := by decide +kernel
theorem tz_162_44 : tw_E sc d 162 44 [x0, x1, x2, x3, x4, x5, x6] (.int v :: st) g mi mr Q = tw_E sc d 162 46 [x0, x1, x2, x3, x4, some (.int v), x6] st g mi mr Q := tw_x_istore td_162_44 tp_162 rfl
theorem td_162_46 : decode (tw_cd 162) 46 = .ok (.iconst 0, 1) := by decide +kernel
theorem tz_162_46 : tw_E sc d 162 46 [x0, x1, x2, x3, x4, x5, x6] st g mi mr Q = tw_E sc d 162 47 [x0, x1, x2, x3, x4, x5, x6] (.int 0 :: st) g mi mr Q := tw_x_iconst td_162_46 (by decide)
theorem td_162_47 : decode (tw_cd 162) 47 = .ok (.istore 6, 2) := by decide +kernel
theorem tz_162_47 : tw_E sc d 162 47 [x0, x1, x2, x3, x4, x5, x6] (.int v :: st) g mi mr Q = tw_E sc d 162 49 [x0, x1, x2, x3, x4, x5, some (.int v)] st g mi mr Q := tw_x_istore td_162_47 tp_162 rfl
theorem td_162_49 : decode (tw_cd 162) 49 = .ok (.iload 6, 2) := by decide +kernel
theorem tz_162_49 : tw_E sc d 162 49 [x0, x1, x2, x3, x4, x5, some (.int v)] st g mi mr Q = tw_E sc d 162 51 [x0, x1, x2, x3, x4, x5, some (.int v)] (.int v :: st) g mi mr Q := tw_x_iload td_162_49 rfl
theorem td_162_51 : decode (tw_cd 162) 51 = .ok (.aload_n 0, 1) := by decide +kernel
theorem tz_162_51 : tw_E sc d 162 51 [some (.ref a), x1, x2, x3, x4, x5, x6] st g mi mr Q = tw_E sc d 162 52 [some (.ref a), x1, x2, x3, x4, x5, x6] (.ref a :: st) g mi mr Q := tw_x_aload_n td_162_51 rfl
theorem td_162_52 : decode (tw_cd 162) 52 = .ok (.getfield 218, 3) := by decide +kernel
theorem tz_162_52 : tw_E sc d 162 52 [x0, x1, x2, x3, x4, x5, x6] (.ref a :: st) g mi mr Q = (tw_kd g a = 10 ∧ tw_E sc d 162 55 [x0, x1, x2, x3, x4, x5, x6] (.int (mi a 23) :: st) g mi mr Q) := tw_x_geti td_162_52 to_162 tf_10_218 (trf_10_23)
theorem td_162_55 : decode (tw_cd 162) 55 = .ok (.if_icmp .ge 75, 3) := by decide +kernel
theorem tz_162_55 : tw_E sc d 162 55 [x0, x1, x2, x3, x4, x5, x6] (.int w :: .int v :: st) g mi mr Q = if w ≤ v then tw_E sc d 162 130 [x0, x1, x2, x3, x4, x5, x6] st g mi mr Q else tw_E sc d 162 58 [x0, x1, x2, x3, x4, x5, x6] st g mi mr Q := tw_x_ic_ge td_162_55 (by decide)
theorem td_162_58 : decode (tw_cd 162) 58 = .ok (.iload_n 3, 1) := by decide +kernel
theorem tz_162_58 : tw_E sc d 162 58 [x0, x1, x2, some (.int v), x4, x5, x6] st g mi mr Q = tw_E sc d 162 59 [x0, x1, x2, some (.int v), x4, x5, x6] (.int v :: st) g mi mr Q := tw_x_iload_n td_162_58 rfl
theorem td_162_59 : decode (tw_cd 162) 59 = .ok (.iload 6, 2) := by decide +kernel
theorem tz_162_59 : tw_E sc d 162 59 [x0, x1, x2, x3, x4, x5, some (.int v)] st g mi mr Q = tw_E sc d 162 61 [x0, x1, x2, x3, x4, x5, some (.int v)] (.int v :: st) g mi mr Q := tw_x_iload td_162_59 rfl
theorem td_162_61 : decode (tw_cd 162) 61 = .ok (.ifCond .eq 22, 3) := by decide +kernel
theorem tz_162_61 : tw_E sc d 162 61 [x0, x1, x2, x3, x4, x5, x6] (.int v :: st) g mi mr Q = if v = 0 then tw_E sc d 162 83 [x0, x1, x2, x3, x4, x5, x6] st g mi mr Q else tw_E sc d 162 64 [x0, x1, x2, x3, x4, x5, x6] st g mi mr Q := tw_x_if_eq td_162_61 (by decide)
theorem td_162_64 : decode (tw_cd 162) 64 = .ok (.aload_n 0, 1) := by decide +kernel
theorem tz_162_64 : tw_E sc d 162 64 [some (.ref a), x1, x2, x3, x4, x5, x6] st g mi mr Q = tw_E sc d 162 65 [some (.ref a), x1, x2, x3, x4, x5, x6] (.ref a :: st) g mi mr Q := tw_x_aload_n td_162_64 rfl
theorem td_162_65 : decode (tw_cd 162) 65 = .ok (.getfield 59, 3) := by decide +kernel
theorem tz_162_65 : tw_E sc d 162 65 [x0, x1, x2, x3, x4, x5, x6] (.ref a :: st) g mi mr Q = (tw_kd g a = 10 ∧ tw_E sc d 162 68 [x0, x1, x2, x3, x4, x5, x6] (va_rf (mr a 24) :: st) g mi mr Q) := tw_x_getr td_162_65 to_162 tf_10_59 (trf_10_24)
theorem td_162_68 : decode (tw_cd 162) 68 = .ok (.iload 6, 2) := by decide +kernel
theorem tz_162_68 : tw_E sc d 162 68 [x0, x1, x2, x3, x4, x5, some (.int v)] st g mi mr Q = tw_E sc d 162 70 [x0, x1, x2, x3, x4, x5, some (.int v)] (.int v :: st) g mi mr Q := tw_x_iload td_162_68 rfl
theorem td_162_70 : decode (tw_cd 162) 70 = .ok (.iaload, 1) := by decide +kernel
theorem tz_162_70 : tw_E sc d 162 70 [x0, x1, x2, x3, x4, x5, x6] (.int v :: .ref a :: st) g mi mr Q = ((tw_kd g a = 20 ∧ vp_in v (tw_ln g a)) ∧ tw_E sc d 162 71 [x0, x1, x2, x3, x4, x5, x6] (.int (mi a v.toNatClampNeg) :: st) g mi mr Q) := tw_x_iald td_162_70
theorem td_162_71 : decode (tw_cd 162) 71 = .ok (.aload_n 0, 1) := by decide +kernel
theorem tz_162_71 : tw_E sc d 162 71 [some (.ref a), x1, x2, x3, x4, x5, x6] st g mi mr Q = tw_E sc d 162 72 [some (.ref a), x1, x2, x3, x4, x5, x6] (.ref a :: st) g mi mr Q := tw_x_aload_n td_162_71 rfl
theorem td_162_72 : decode (tw_cd 162) 72 = .ok (.getfield 59, 3) := by decide +kernel
theorem tz_162_72 : tw_E sc d 162 72 [x0, x1, x2, x3, x4, x5, x6] (.ref a :: st) g mi mr Q = (tw_kd g a = 10 ∧ tw_E sc d 162 75 [x0, x1, x2, x3, x4, x5, x6] (va_rf (mr a 24) :: st) g mi mr Q) := tw_x_getr td_162_72 to_162 tf_10_59 (trf_10_24)
theorem td_162_75 : decode (tw_cd 162) 75 = .ok (.iload 6, 2) := by decide +kernel
theorem tz_162_75 : tw_E sc d 162 75 [x0, x1, x2, x3, x4, x5, some (.int v)] st g mi mr Q = tw_E sc d 162 77 [x0, x1, x2, x3, x4, x5, some (.int v)] (.int v :: st) g mi mr Q := tw_x_iload td_162_75 rfl
theorem td_162_77 : decode (tw_cd 162) 77 = .ok (.iconst 1, 1) := by decide +kernel
theorem tz_162_77 : tw_E sc d 162 77 [x0, x1, x2, x3, x4, x5, x6] st g mi mr Q = tw_E sc d 162 78 [x0, x1, x2, x3, x4, x5, x6] (.int 1 :: st) g mi mr Q := tw_x_iconst td_162_77 (by decide)
theorem td_162_78 : decode (tw_cd 162) 78 = .ok (.isub, 1) := by decide +kernel
theorem tz_162_78 : tw_E sc d 162 78 [x0, x1, x2, x3, x4, x5, x6] (.int w :: .int v :: st) g mi mr Q = tw_E sc d 162 79 [x0, x1, x2, x3, x4, x5, x6] (.int (v - w) :: st) g mi mr Q := tw_x_isub td_162_78
theorem td_162_79 : decode (tw_cd 162) 79 = .ok (.iaload, 1) := by decide +kernel
theorem tz_162_79 : tw_E sc d 162 79 [x0, x1, x2, x3, x4, x5, x6] (.int v :: .ref a :: st) g mi mr Q = ((tw_kd g a = 20 ∧ vp_in v (tw_ln g a)) ∧ tw_E sc d 162 80 [x0, x1, x2, x3, x4, x5, x6] (.int (mi a v.toNatClampNeg) :: st) g mi mr Q) := tw_x_iald td_162_79
theorem td_162_80 : decode (tw_cd 162) 80 = .ok (.if_icmp .eq 7, 3) := by decide +kernel
theorem tz_162_80 : tw_E sc d 162 80 [x0, x1, x2, x3, x4, x5, x6] (.int w :: .int v :: st) g mi mr Q = if v = w then tw_E sc d 162 87 [x0, x1, x2, x3, x4, x5, x6] st g mi mr Q else tw_E sc d 162 83 [x0, x1, x2, x3, x4, x5, x6] st g mi mr Q := tw_x_ic_eq td_162_80 (by decide)
theorem td_162_83 : decode (tw_cd 162) 83 = .ok (.iconst 1, 1) := by decide +kernel
theorem tz_162_83 : tw_E sc d 162 83 [x0, x1, x2, x3, x4, x5, x6] st g mi mr Q = tw_E sc d 162 84 [x0, x1, x2, x3, x4, x5, x6] (.int 1 :: st) g mi mr Q := tw_x_iconst td_162_83 (by decide)
theorem td_162_84 : decode (tw_cd 162) 84 = .ok (.goto 4, 3) := by decide +kernel
theorem tz_162_84 : tw_E sc d 162 84 [x0, x1, x2, x3, x4, x5, x6] st g mi mr Q = tw_E sc d 162 88 [x0, x1, x2, x3, x4, x5, x6] st g mi mr Q := tw_x_goto td_162_84 (by decide)
theorem td_162_87 : decode (tw_cd 162) 87 = .ok (.iconst 0, 1) := by decide +kernel
theorem tz_162_87 : tw_E sc d 162 87 [x0, x1, x2, x3, x4, x5, x6] st g mi mr Q = tw_E sc d 162 88 [x0, x1, x2, x3, x4, x5, x6] (.int 0 :: st) g mi mr Q := tw_x_iconst td_162_87 (by decide)
theorem td_162_88 : decode (tw_cd 162) 88 = .ok (.iadd, 1) := by decide +kernel
theorem tz_162_88 : tw_E sc d 162 88 [x0, x1, x2, x3, x4, x5, x6] (.int w :: .int v :: st) g mi mr Q = tw_E sc d 162 89 [x0, x1, x2, x3, x4, x5, x6] (.int (v + w) :: st) g mi mr Q := tw_x_iadd td_162_88
theorem td_162_89 : decode (tw_cd 162) 89 = .ok (.istore_n 3, 1) := by decide +kernel
theorem tz_162_89 : tw_E sc d 162 89 [x0, x1, x2, x3, x4, x5, x6] (.int v :: st) g mi mr Q = tw_E sc d 162 90 [x0, x1, x2, some (.int v), x4, x5, x6] st g mi mr Q := tw_x_istore_n td_162_89 tp_162 rfl
theorem td_162_90 : decode (tw_cd 162) 90 = .ok (.iload 4, 2) := by decide +kernel
theorem tz_162_90 : tw_E sc d 162 90 [x0, x1, x2, x3, some (.int v), x5, x6] st g mi mr Q = tw_E sc d 162 92 [x0, x1, x2, x3, some (.int v), x5, x6] (.int v :: st) g mi mr Q := tw_x_iload td_162_90 rfl
theorem td_162_92 : decode (tw_cd 162) 92 = .ok (.iload_n 3, 1) := by decide +kernel
theorem tz_162_92 : tw_E sc d 162 92 [x0, x1, x2, some (.int v), x4, x5, x6] st g mi mr Q = tw_E sc d 162 93 [x0, x1, x2, some (.int v), x4, x5, x6] (.int v :: st) g mi mr Q := tw_x_iload_n td_162_92 rfl
theorem td_162_93 : decode (tw_cd 162) 93 = .ok (.iload_n 1, 1) := by decide +kernel
theorem tz_162_93 : tw_E sc d 162 93 [x0, some (.int v), x2, x3, x4, x5, x6] st g mi mr Q = tw_E sc d 162 94 [x0, some (.int v), x2, x3, x4, x5, x6] (.int v :: st) g mi mr Q := tw_x_iload_n td_162_93 rfl
theorem td_162_94 : decode (tw_cd 162) 94 = .ok (.if_icmp .ne 7, 3) := by decide +kernel
theorem tz_162_94 : tw_E sc d 162 94 [x0, x1, x2, x3, x4, x5, x6] (.int w :: .int v :: st) g mi mr Q = if ¬ v = w then tw_E sc d 162 101 [x0, x1, x2, x3, x4, x5, x6] st g mi mr Q else tw_E sc d 162 97 [x0, x1, x2, x3, x4, x5, x6] st g mi mr Q := tw_x_ic_ne td_162_94 (by decide)
theorem td_162_97 : decode (tw_cd 162) 97 = .ok (.iconst 1, 1) := by decide +kernel
theorem tz_162_97 : tw_E sc d 162 97 [x0, x1, x2, x3, x4, x5, x6] st g mi mr Q = tw_E sc d 162 98 [x0, x1, x2, x3, x4, x5, x6] (.int 1 :: st) g mi mr Q := tw_x_iconst td_162_97 (by decide)
theorem td_162_98 : decode (tw_cd 162) 98 = .ok (.goto 4, 3) := by decide +kernel
theorem tz_162_98 : tw_E sc d 162 98 [x0, x1, x2, x3, x4, x5, x6] st g mi mr Q = tw_E sc d 162 102 [x0, x1, x2, x3, x4, x5, x6] st g mi mr Q := tw_x_goto td_162_98 (by decide)
theorem td_162_101 : decode (tw_cd 162) 101 = .ok (.iconst 0, 1) := by decide +kernel
theorem tz_162_101 : tw_E sc d 162 101 [x0, x1, x2, x3, x4, x5, x6] st g mi mr Q = tw_E sc d 162 102 [x0, x1, x2, x3, x4, x5, x6] (.int 0 :: st) g mi mr Q := tw_x_iconst td_162_101 (by decide)
theorem td_162_102 : decode (tw_cd 162) 102 = .ok (.iadd, 1) := by decide +kernel
theorem tz_162_102 : tw_E sc d 162 102 [x0, x1, x2, x3, x4, x5, x6] (.int w :: .int v :: st) g mi mr Q = tw_E sc d 162 103 [x0, x1, x2, x3, x4, x5, x6] (.int (v + w) :: st) g mi mr Q := tw_x_iadd td_162_102
theorem td_162_103 : decode (tw_cd 162) 103 = .ok (.istore 4, 2) := by decide +kernel
theorem tz_162_103 : tw_E sc d 162 103 [x0, x1, x2, x3, x4, x5, x6] (.int v :: st) g mi mr Q = tw_E sc d 162 105 [x0, x1, x2, x3, some (.int v), x5, x6] st g mi mr Q := tw_x_istore td_162_103 tp_162 rfl
theorem td_162_105 : decode (tw_cd 162) 105 = .ok (.iload_n 3, 1) := by decide +kernel
theorem tz_162_105 : tw_E sc d 162 105 [x0, x1, x2, some (.int v), x4, x5, x6] st g mi mr Q = tw_E sc d 162 106 [x0, x1, x2, some (.int v), x4, x5, x6] (.int v :: st) g mi mr Q := tw_x_iload_n td_162_105 rfl
theorem td_162_106 : decode (tw_cd 162) 106 = .ok (.iload_n 1, 1) := by decide +kernel
theorem tz_162_106 : tw_E sc d 162 106 [x0, some (.int v), x2, x3, x4, x5, x6] st g mi mr Q = tw_E sc d 162 107 [x0, some (.int v), x2, x3, x4, x5, x6] (.int v :: st) g mi mr Q := tw_x_iload_n td_162_106 rfl
theorem td_162_107 : decode (tw_cd 162) 107 = .ok (.if_icmp .ne 13, 3) := by decide +kernel
theorem tz_162_107 : tw_E sc d 162 107 [x0, x1, x2, x3, x4, x5, x6] (.int w :: .int v :: st) g mi mr Q = if ¬ v = w then tw_E sc d 162 120 [x0, x1, x2, x3, x4, x5, x6] st g mi mr Q else tw_E sc d 162 110 [x0, x1, x2, x3, x4, x5, x6] st g mi mr Q := tw_x_ic_ne td_162_107 (by decide)
theorem td_162_110 : decode (tw_cd 162) 110 = .ok (.aload_n 0, 1) := by decide +kernel
theorem tz_162_110 : tw_E sc d 162 110 [some (.ref a), x1, x2, x3, x4, x5, x6] st g mi mr Q = tw_E sc d 162 111 [some (.ref a), x1, x2, x3, x4, x5, x6] (.ref a :: st) g mi mr Q := tw_x_aload_n td_162_110 rfl
theorem td_162_111 : decode (tw_cd 162) 111 = .ok (.getfield 59, 3) := by decide +kernel
theorem tz_162_111 : tw_E sc d 162 111 [x0, x1, x2, x3, x4, x5, x6] (.ref a :: st) g mi mr Q = (tw_kd g a = 10 ∧ tw_E sc d 162 114 [x0, x1, x2, x3, x4, x5, x6] (va_rf (mr a 24) :: st) g mi mr Q) := tw_x_getr td_162_111 to_162 tf_10_59 (trf_10_24)
theorem td_162_114 : decode (tw_cd 162) 114 = .ok (.iload 6, 2) := by decide +kernel
theorem tz_162_114 : tw_E sc d 162 114 [x0, x1, x2, x3, x4, x5, some (.int v)] st g mi mr Q = tw_E sc d 162 116 [x0, x1, x2, x3, x4, x5, some (.int v)] (.int v :: st) g mi mr Q := tw_x_iload td_162_114 rfl
theorem td_162_116 : decode (tw_cd 162) 116 = .ok (.iaload, 1) := by decide +kernel
theorem tz_162_116 : tw_E sc d 162 116 [x0, x1, x2, x3, x4, x5, x6] (.int v :: .ref a :: st) g mi mr Q = ((tw_kd g a = 20 ∧ vp_in v (tw_ln g a)) ∧ tw_E sc d 162 117 [x0, x1, x2, x3, x4, x5, x6] (.int (mi a v.toNatClampNeg) :: st) g mi mr Q) := tw_x_iald td_162_116
theorem td_162_117 : decode (tw_cd 162) 117 = .ok (.goto 5, 3) := by decide +kernel
theorem tz_162_117 : tw_E sc d 162 117 [x0, x1, x2, x3, x4, x5, x6] st g mi mr Q = tw_E sc d 162 122 [x0, x1, x2, x3, x4, x5, x6] st g mi mr Q := tw_x_goto td_162_117 (by decide)
theorem td_162_120 : decode (tw_cd 162) 120 = .ok (.iload 5, 2) := by decide +kernel
theorem tz_162_120 : tw_E sc d 162 120 [x0, x1, x2, x3, x4, some (.int v), x6] st g mi mr Q = tw_E sc d 162 122 [x0, x1, x2, x3, x4, some (.int v), x6] (.int v :: st) g mi mr Q := tw_x_iload td_162_120 rfl
theorem td_162_122 : decode (tw_cd 162) 122 = .ok (.istore 5, 2) := by decide +kernel
theorem tz_162_122 : tw_E sc d 162 122 [x0, x1, x2, x3, x4, x5, x6] (.int v :: st) g mi mr Q = tw_E sc d 162 124 [x0, x1, x2, x3, x4, some (.int v), x6] st g mi mr Q := tw_x_istore td_162_122 tp_162 rfl
theorem td_162_124 : decode (tw_cd 162) 124 = .ok (.iinc 6 1, 3) := by decide +kernel
theorem tz_162_124 : tw_E sc d 162 124 [x0, x1, x2, x3, x4, x5, some (.int v)] st g mi mr Q = tw_E sc d 162 127 [x0, x1, x2, x3, x4, x5, some (.int (v + 1))] st g mi mr Q := tw_x_iinc td_162_124 rfl (by first | rfl | (exact congrArg (v + ·) (by decide))) tp_162 rfl
theorem td_162_127 : decode (tw_cd 162) 127 = .ok (.goto (-78), 3) := by decide +kernel
theorem tz_162_127 : tw_E sc d 162 127 [x0, x1, x2, x3, x4, x5, x6] st g mi mr Q = tw_E sc d 162 49 [x0, x1, x2, x3, x4, x5, x6] st g mi mr Q := tw_x_goto td_162_127 (by decide)
theorem td_162_130 : decode (tw_cd 162) 130 = .ok (.iload_n 2, 1) := by decide +kernel
theorem tz_162_130 : tw_E sc d 162 130 [x0, x1, some (.int v), x3, x4, x5, x6] st g mi mr Q = tw_E sc d 162 131 [x0, x1, some (.int v), x3, x4, x5, x6] (.int v :: st) g mi mr Q := tw_x_iload_n td_162_130 rfl
theorem td_162_131 : decode (tw_cd 162) 131 = .ok (.ifCond .ne 8, 3) := by decide +kernel
theorem tz_162_131 : tw_E sc d 162 131 [x0, x1, x2, x3, x4, x5, x6] (.int v :: st) g mi mr Q = if ¬ v = 0 then tw_E sc d 162 139 [x0, x1, x2, x3, x4, x5, x6] st g mi mr Q else tw_E sc d 162 134 [x0, x1, x2, x3, x4, x5, x6] st g mi mr Q := tw_x_if_ne td_162_131 (by decide)
theorem td_162_134 : decode (tw_cd 162) 134 = .ok (.iload 5, 2) := by decide +kernel
theorem tz_162_134 : tw_E sc d 162 134 [x0, x1, x2, x3, x4, some (.int v), x6] st g mi mr Q = tw_E sc d 162 136 [x0, x1, x2, x3, x4, some (.int v), x6] (.int v :: st) g mi mr Q := tw_x_iload td_162_134 rfl
theorem td_162_136 : decode (tw_cd 162) 136 = .ok (.goto 5, 3) := by decide +kernel
theorem tz_162_136 : tw_E sc d 162 136 [x0, x1, x2, x3, x4, x5, x6] st g mi mr Q = tw_E sc d 162 141 [x0, x1, x2, x3, x4, x5, x6] st g mi mr Q := tw_x_goto td_162_136 (by decide)
theorem td_162_139 : decode (tw_cd 162) 139 = .ok (.iload 4, 2) := by decide +kernel
theorem tz_162_139 : tw_E sc d 162 139 [x0, x1, x2, x3, some (.int v), x5, x6] st g mi mr Q = tw_E sc d 162 141 [x0, x1, x2, x3, some (.int v), x5, x6] (.int v :: st) g mi mr Q := tw_x_iload td_162_139 rfl
theorem td_162_141 : decode (tw_cd 162) 141 = .ok (.ireturn, 1) := by decide +kernel
theorem tz_162_141 : tw_E sc d 162 141 [x0, x1, x2, x3, x4, x5, x6] ([.int v]) g mi mr Q = Q (some (.int v)) g mi mr := tw_x_iret td_162_141 tr_162
end tz_162
-- 163: Mo_squeezed
section tz_163
variable {sc : Nat × (Nat → Int32)} {d : Nat} {x0 x1 : Option Value} {st : List Value} {g : tw_G} {mi : tw_I} {mr : tw_Q} {Q : Option Value → tw_G → tw_I → tw_Q → Prop} {v w u : Int32} {a b : Nat} {j h : Int64} {s1 s2 s3 s4 : Value}
theorem td_163_0 : decode (tw_cd 163) 0 = .ok (.aload_n 0, 1) := by decide +kernel
theorem tz_163_0 : tw_E sc d 163 0 [some (.ref a), x1] st g mi mr Q = tw_E sc d 163 1 [some (.ref a), x1] (.ref a :: st) g mi mr Q := tw_x_aload_n td_163_0 rfl
theorem td_163_1 : decode (tw_cd 163) 1 = .ok (.iconst 0, 1) := by decide +kernel
theorem tz_163_1 : tw_E sc d 163 1 [x0, x1] st g mi mr Q = tw_E sc d 163 2 [x0, x1] (.int 0 :: st) g mi mr Q := tw_x_iconst td_163_1 (by decide)
theorem td_163_2 : decode (tw_cd 163) 2 = .ok (.putfield 83, 3) := by decide +kernel
theorem tz_163_2 : tw_E sc d 163 2 [x0, x1] (.int v :: .ref a :: st) g mi mr Q = (tw_kd g a = 10 ∧ tw_E sc d 163 5 [x0, x1] st g (tw_st mi a (tw_st (mi a) 0 v)) mr Q) := tw_x_puti td_163_2 to_163 tf_10_83 rfl rfl
theorem td_163_5 : decode (tw_cd 163) 5 = .ok (.iload_n 1, 1) := by decide +kernel
theorem tz_163_5 : tw_E sc d 163 5 [x0, some (.int v)] st g mi mr Q = tw_E sc d 163 6 [x0, some (.int v)] (.int v :: st) g mi mr Q := tw_x_iload_n td_163_5 rfl
theorem td_163_6 : decode (tw_cd 163) 6 = .ok (.i2l, 1) := by decide +kernel
theorem tz_163_6 : tw_E sc d 163 6 [x0, x1] (.int v :: st) g mi mr Q = tw_E sc d 163 7 [x0, x1] (.long v.toInt64 :: st) g mi mr Q := tw_x_i2l td_163_6
theorem td_163_7 : decode (tw_cd 163) 7 = .ok (.lconst 0, 1) := by decide +kernel
theorem tz_163_7 : tw_E sc d 163 7 [x0, x1] st g mi mr Q = tw_E sc d 163 8 [x0, x1] (.long 0 :: st) g mi mr Q := tw_x_lconst td_163_7 (by decide)
theorem td_163_8 : decode (tw_cd 163) 8 = .ok (.ldc2_w 203, 3) := by decide +kernel
theorem tz_163_8 : tw_E sc d 163 8 [x0, x1] st g mi mr Q = tw_E sc d 163 11 [x0, x1] (.long 65535 :: st) g mi mr Q := tw_x_ldl td_163_8 to_163 tl_10_203
theorem td_163_11 : decode (tw_cd 163) 11 = .ok (.invokestatic 96, 3) := by decide +kernel
theorem tz_163_11 {a0 : Int64} {a1 : Int64} {a2 : Int64} : tw_E sc (d + 1) 163 11 [x0, x1] ([.long a2, .long a1, .long a0]) g mi mr Q = tw_E sc d 126 0 [some (.long a0), none, some (.long a1), none, some (.long a2), none] [] g mi mr (tw_K sc (d + 1) 163 14 [x0, x1] [] Q) := tw_x_cs (as := [.long a0, .long a1, .long a2]) (r := []) td_163_11 to_163 tmn_10_96 tc_10_96 rfl rfl rfl rfl rfl
theorem td_163_14 : decode (tw_cd 163) 14 = .ok (.ifCond .eq 11, 3) := by decide +kernel
theorem tz_163_14 : tw_E sc d 163 14 [x0, x1] (.int v :: st) g mi mr Q = if v = 0 then tw_E sc d 163 25 [x0, x1] st g mi mr Q else tw_E sc d 163 17 [x0, x1] st g mi mr Q := tw_x_if_eq td_163_14 (by decide)
theorem td_163_17 : decode (tw_cd 163) 17 = .ok (.aload_n 0, 1) := by decide +kernel
theorem tz_163_17 : tw_E sc d 163 17 [some (.ref a), x1] st g mi mr Q = tw_E sc d 163 18 [some (.ref a), x1] (.ref a :: st) g mi mr Q := tw_x_aload_n td_163_17 rfl
theorem td_163_18 : decode (tw_cd 163) 18 = .ok (.iload_n 1, 1) := by decide +kernel
theorem tz_163_18 : tw_E sc d 163 18 [x0, some (.int v)] st g mi mr Q = tw_E sc d 163 19 [x0, some (.int v)] (.int v :: st) g mi mr Q := tw_x_iload_n td_163_18 rfl
theorem td_163_19 : decode (tw_cd 163) 19 = .ok (.invokevirtual 222, 3) := by decide +kernel
theorem tz_163_19 {a0 : Int32} : tw_E sc (d + 1) 163 19 [x0, x1] ([.int a0, .ref a]) g mi mr Q = (tw_kd g a = 10 ∧ tw_E sc d 160 0 [some (.ref a), some (.int a0), none, none] [] g mi mr (tw_K sc (d + 1) 163 22 [x0, x1] [] Q)) := tw_x_cv (as := [.int a0]) (r := []) td_163_19 to_163 tc_10_222 to_160 rfl rfl rfl rfl
theorem td_163_22 : decode (tw_cd 163) 22 = .ok (.goto 5, 3) := by decide +kernel
theorem tz_163_22 : tw_E sc d 163 22 [x0, x1] st g mi mr Q = tw_E sc d 163 27 [x0, x1] st g mi mr Q := tw_x_goto td_163_22 (by decide)
theorem td_163_25 : decode (tw_cd 163) 25 = .ok (.bipush (-2), 2) := by decide +kernel
theorem tz_163_25 : tw_E sc d 163 25 [x0, x1] st g mi mr Q = tw_E sc d 163 27 [x0, x1] (.int (-2) :: st) g mi mr Q := tw_x_bipush td_163_25 (by decide)
theorem td_163_27 : decode (tw_cd 163) 27 = .ok (.ireturn, 1) := by decide +kernel
theorem tz_163_27 : tw_E sc d 163 27 [x0, x1] ([.int v]) g mi mr Q = Q (some (.int v)) g mi mr := tw_x_iret td_163_27 tr_163
end tz_163
-- 164: Mo_mark1
section tz_164
variable {sc : Nat × (Nat → Int32)} {d : Nat} {x0 x1 x2 x3 : Option Value} {st : List Value} {g : tw_G} {mi : tw_I} {mr : tw_Q} {Q : Option Value → tw_G → tw_I → tw_Q → Prop} {v w u : Int32} {a b : Nat} {j h : Int64} {s1 s2 s3 s4 : Value}
theorem td_164_0 : decode (tw_cd 164) 0 = .ok (.aload_n 0, 1) := by decide +kernel
theorem tz_164_0 : tw_E sc d 164 0 [some (.ref a), x1, x2, x3] st g mi mr Q = tw_E sc d 164 1 [some (.ref a), x1, x2, x3] (.ref a :: st) g mi mr Q := tw_x_aload_n td_164_0 rfl
theorem td_164_1 : decode (tw_cd 164) 1 = .ok (.getfield 225, 3) := by decide +kernel
theorem tz_164_1 : tw_E sc d 164 1 [x0, x1, x2, x3] (.ref a :: st) g mi mr Q = (tw_kd g a = 10 ∧ tw_E sc d 164 4 [x0, x1, x2, x3] (.int (mi a 25) :: st) g mi mr Q) := tw_x_geti td_164_1 to_164 tf_10_225 (trf_10_25)
theorem td_164_4 : decode (tw_cd 164) 4 = .ok (.sipush 400, 3) := by decide +kernel
theorem tz_164_4 : tw_E sc d 164 4 [x0, x1, x2, x3] st g mi mr Q = tw_E sc d 164 7 [x0, x1, x2, x3] (.int 400 :: st) g mi mr Q := tw_x_sipush td_164_4 (by decide)
theorem td_164_7 : decode (tw_cd 164) 7 = .ok (.if_icmp .ge 43, 3) := by decide +kernel
theorem tz_164_7 : tw_E sc d 164 7 [x0, x1, x2, x3] (.int w :: .int v :: st) g mi mr Q = if w ≤ v then tw_E sc d 164 50 [x0, x1, x2, x3] st g mi mr Q else tw_E sc d 164 10 [x0, x1, x2, x3] st g mi mr Q := tw_x_ic_ge td_164_7 (by decide)
theorem td_164_10 : decode (tw_cd 164) 10 = .ok (.aload_n 0, 1) := by decide +kernel
theorem tz_164_10 : tw_E sc d 164 10 [some (.ref a), x1, x2, x3] st g mi mr Q = tw_E sc d 164 11 [some (.ref a), x1, x2, x3] (.ref a :: st) g mi mr Q := tw_x_aload_n td_164_10 rfl
theorem td_164_11 : decode (tw_cd 164) 11 = .ok (.getfield 62, 3) := by decide +kernel
theorem tz_164_11 : tw_E sc d 164 11 [x0, x1, x2, x3] (.ref a :: st) g mi mr Q = (tw_kd g a = 10 ∧ tw_E sc d 164 14 [x0, x1, x2, x3] (va_rf (mr a 26) :: st) g mi mr Q) := tw_x_getr td_164_11 to_164 tf_10_62 (trf_10_26)
theorem td_164_14 : decode (tw_cd 164) 14 = .ok (.aload_n 0, 1) := by decide +kernel
theorem tz_164_14 : tw_E sc d 164 14 [some (.ref a), x1, x2, x3] st g mi mr Q = tw_E sc d 164 15 [some (.ref a), x1, x2, x3] (.ref a :: st) g mi mr Q := tw_x_aload_n td_164_14 rfl
theorem td_164_15 : decode (tw_cd 164) 15 = .ok (.getfield 225, 3) := by decide +kernel
theorem tz_164_15 : tw_E sc d 164 15 [x0, x1, x2, x3] (.ref a :: st) g mi mr Q = (tw_kd g a = 10 ∧ tw_E sc d 164 18 [x0, x1, x2, x3] (.int (mi a 25) :: st) g mi mr Q) := tw_x_geti td_164_15 to_164 tf_10_225 (trf_10_25)
theorem td_164_18 : decode (tw_cd 164) 18 = .ok (.iload_n 1, 1) := by decide +kernel
theorem tz_164_18 : tw_E sc d 164 18 [x0, some (.int v), x2, x3] st g mi mr Q = tw_E sc d 164 19 [x0, some (.int v), x2, x3] (.int v :: st) g mi mr Q := tw_x_iload_n td_164_18 rfl
theorem td_164_19 : decode (tw_cd 164) 19 = .ok (.iastore, 1) := by decide +kernel
theorem tz_164_19 : tw_E sc d 164 19 [x0, x1, x2, x3] (.int w :: .int v :: .ref a :: st) g mi mr Q = ((tw_kd g a = 20 ∧ vp_in v (tw_ln g a)) ∧ tw_E sc d 164 20 [x0, x1, x2, x3] st g (tw_st mi a (tw_st (mi a) v.toNatClampNeg w)) mr Q) := tw_x_iast td_164_19
theorem td_164_20 : decode (tw_cd 164) 20 = .ok (.aload_n 0, 1) := by decide +kernel
theorem tz_164_20 : tw_E sc d 164 20 [some (.ref a), x1, x2, x3] st g mi mr Q = tw_E sc d 164 21 [some (.ref a), x1, x2, x3] (.ref a :: st) g mi mr Q := tw_x_aload_n td_164_20 rfl
theorem td_164_21 : decode (tw_cd 164) 21 = .ok (.getfield 65, 3) := by decide +kernel
theorem tz_164_21 : tw_E sc d 164 21 [x0, x1, x2, x3] (.ref a :: st) g mi mr Q = (tw_kd g a = 10 ∧ tw_E sc d 164 24 [x0, x1, x2, x3] (va_rf (mr a 27) :: st) g mi mr Q) := tw_x_getr td_164_21 to_164 tf_10_65 (trf_10_27)
theorem td_164_24 : decode (tw_cd 164) 24 = .ok (.aload_n 0, 1) := by decide +kernel
theorem tz_164_24 : tw_E sc d 164 24 [some (.ref a), x1, x2, x3] st g mi mr Q = tw_E sc d 164 25 [some (.ref a), x1, x2, x3] (.ref a :: st) g mi mr Q := tw_x_aload_n td_164_24 rfl
theorem td_164_25 : decode (tw_cd 164) 25 = .ok (.getfield 225, 3) := by decide +kernel
theorem tz_164_25 : tw_E sc d 164 25 [x0, x1, x2, x3] (.ref a :: st) g mi mr Q = (tw_kd g a = 10 ∧ tw_E sc d 164 28 [x0, x1, x2, x3] (.int (mi a 25) :: st) g mi mr Q) := tw_x_geti td_164_25 to_164 tf_10_225 (trf_10_25)
theorem td_164_28 : decode (tw_cd 164) 28 = .ok (.iload_n 2, 1) := by decide +kernel
theorem tz_164_28 : tw_E sc d 164 28 [x0, x1, some (.int v), x3] st g mi mr Q = tw_E sc d 164 29 [x0, x1, some (.int v), x3] (.int v :: st) g mi mr Q := tw_x_iload_n td_164_28 rfl
theorem td_164_29 : decode (tw_cd 164) 29 = .ok (.iastore, 1) := by decide +kernel
theorem tz_164_29 : tw_E sc d 164 29 [x0, x1, x2, x3] (.int w :: .int v :: .ref a :: st) g mi mr Q = ((tw_kd g a = 20 ∧ vp_in v (tw_ln g a)) ∧ tw_E sc d 164 30 [x0, x1, x2, x3] st g (tw_st mi a (tw_st (mi a) v.toNatClampNeg w)) mr Q) := tw_x_iast td_164_29
theorem td_164_30 : decode (tw_cd 164) 30 = .ok (.aload_n 0, 1) := by decide +kernel
theorem tz_164_30 : tw_E sc d 164 30 [some (.ref a), x1, x2, x3] st g mi mr Q = tw_E sc d 164 31 [some (.ref a), x1, x2, x3] (.ref a :: st) g mi mr Q := tw_x_aload_n td_164_30 rfl
theorem td_164_31 : decode (tw_cd 164) 31 = .ok (.getfield 68, 3) := by decide +kernel
theorem tz_164_31 : tw_E sc d 164 31 [x0, x1, x2, x3] (.ref a :: st) g mi mr Q = (tw_kd g a = 10 ∧ tw_E sc d 164 34 [x0, x1, x2, x3] (va_rf (mr a 28) :: st) g mi mr Q) := tw_x_getr td_164_31 to_164 tf_10_68 (trf_10_28)
theorem td_164_34 : decode (tw_cd 164) 34 = .ok (.aload_n 0, 1) := by decide +kernel
theorem tz_164_34 : tw_E sc d 164 34 [some (.ref a), x1, x2, x3] st g mi mr Q = tw_E sc d 164 35 [some (.ref a), x1, x2, x3] (.ref a :: st) g mi mr Q := tw_x_aload_n td_164_34 rfl
theorem td_164_35 : decode (tw_cd 164) 35 = .ok (.getfield 225, 3) := by decide +kernel
theorem tz_164_35 : tw_E sc d 164 35 [x0, x1, x2, x3] (.ref a :: st) g mi mr Q = (tw_kd g a = 10 ∧ tw_E sc d 164 38 [x0, x1, x2, x3] (.int (mi a 25) :: st) g mi mr Q) := tw_x_geti td_164_35 to_164 tf_10_225 (trf_10_25)
theorem td_164_38 : decode (tw_cd 164) 38 = .ok (.iload_n 3, 1) := by decide +kernel
theorem tz_164_38 : tw_E sc d 164 38 [x0, x1, x2, some (.int v)] st g mi mr Q = tw_E sc d 164 39 [x0, x1, x2, some (.int v)] (.int v :: st) g mi mr Q := tw_x_iload_n td_164_38 rfl
theorem td_164_39 : decode (tw_cd 164) 39 = .ok (.iastore, 1) := by decide +kernel
theorem tz_164_39 : tw_E sc d 164 39 [x0, x1, x2, x3] (.int w :: .int v :: .ref a :: st) g mi mr Q = ((tw_kd g a = 20 ∧ vp_in v (tw_ln g a)) ∧ tw_E sc d 164 40 [x0, x1, x2, x3] st g (tw_st mi a (tw_st (mi a) v.toNatClampNeg w)) mr Q) := tw_x_iast td_164_39
theorem td_164_40 : decode (tw_cd 164) 40 = .ok (.aload_n 0, 1) := by decide +kernel
theorem tz_164_40 : tw_E sc d 164 40 [some (.ref a), x1, x2, x3] st g mi mr Q = tw_E sc d 164 41 [some (.ref a), x1, x2, x3] (.ref a :: st) g mi mr Q := tw_x_aload_n td_164_40 rfl
theorem td_164_41 : decode (tw_cd 164) 41 = .ok (.dup, 1) := by decide +kernel
theorem tz_164_41 : tw_E sc d 164 41 [x0, x1, x2, x3] (.ref a :: st) g mi mr Q = tw_E sc d 164 42 [x0, x1, x2, x3] (.ref a :: .ref a :: st) g mi mr Q := tw_x_dup_ref td_164_41
theorem td_164_42 : decode (tw_cd 164) 42 = .ok (.getfield 225, 3) := by decide +kernel
theorem tz_164_42 : tw_E sc d 164 42 [x0, x1, x2, x3] (.ref a :: st) g mi mr Q = (tw_kd g a = 10 ∧ tw_E sc d 164 45 [x0, x1, x2, x3] (.int (mi a 25) :: st) g mi mr Q) := tw_x_geti td_164_42 to_164 tf_10_225 (trf_10_25)
theorem td_164_45 : decode (tw_cd 164) 45 = .ok (.iconst 1, 1) := by decide +kernel
theorem tz_164_45 : tw_E sc d 164 45 [x0, x1, x2, x3] st g mi mr Q = tw_E sc d 164 46 [x0, x1, x2, x3] (.int 1 :: st) g mi mr Q := tw_x_iconst td_164_45 (by decide)
theorem td_164_46 : decode (tw_cd 164) 46 = .ok (.iadd, 1) := by decide +kernel
theorem tz_164_46 : tw_E sc d 164 46 [x0, x1, x2, x3] (.int w :: .int v :: st) g mi mr Q = tw_E sc d 164 47 [x0, x1, x2, x3] (.int (v + w) :: st) g mi mr Q := tw_x_iadd td_164_46
theorem td_164_47 : decode (tw_cd 164) 47 = .ok (.putfield 225, 3) := by decide +kernel
theorem tz_164_47 : tw_E sc d 164 47 [x0, x1, x2, x3] (.int v :: .ref a :: st) g mi mr Q = (tw_kd g a = 10 ∧ tw_E sc d 164 50 [x0, x1, x2, x3] st g (tw_st mi a (tw_st (mi a) 25 v)) mr Q) := tw_x_puti td_164_47 to_164 tf_10_225 rfl rfl
theorem td_164_50 : decode (tw_cd 164) 50 = .ok (.return_, 1) := by decide +kernel
theorem tz_164_50 : tw_E sc d 164 50 [x0, x1, x2, x3] [] g mi mr Q = Q none g mi mr := tw_x_vret td_164_50 tr_164
end tz_164
-- 165: Mo_isBeginning
section tz_165
variable {sc : Nat × (Nat → Int32)} {d : Nat} {x0 x1 x2 : Option Value} {st : List Value} {g : tw_G} {mi : tw_I} {mr : tw_Q} {Q : Option Value → tw_G → tw_I → tw_Q → Prop} {v w u : Int32} {a b : Nat} {j h : Int64} {s1 s2 s3 s4 : Value}
theorem td_165_0 : decode (tw_cd 165) 0 = .ok (.aload_n 0, 1) := by decide +kernel
theorem tz_165_0 : tw_E sc d 165 0 [some (.ref a), x1, x2] st g mi mr Q = tw_E sc d 165 1 [some (.ref a), x1, x2] (.ref a :: st) g mi mr Q := tw_x_aload_n td_165_0 rfl
theorem td_165_1 : decode (tw_cd 165) 1 = .ok (.getfield 53, 3) := by decide +kernel
theorem tz_165_1 : tw_E sc d 165 1 [x0, x1, x2] (.ref a :: st) g mi mr Q = (tw_kd g a = 10 ∧ tw_E sc d 165 4 [x0, x1, x2] (va_rf (mr a 21) :: st) g mi mr Q) := tw_x_getr td_165_1 to_165 tf_10_53 (trf_10_21)
theorem td_165_4 : decode (tw_cd 165) 4 = .ok (.iload_n 2, 1) := by decide +kernel
theorem tz_165_4 : tw_E sc d 165 4 [x0, x1, some (.int v)] st g mi mr Q = tw_E sc d 165 5 [x0, x1, some (.int v)] (.int v :: st) g mi mr Q := tw_x_iload_n td_165_4 rfl
theorem td_165_5 : decode (tw_cd 165) 5 = .ok (.iaload, 1) := by decide +kernel
theorem tz_165_5 : tw_E sc d 165 5 [x0, x1, x2] (.int v :: .ref a :: st) g mi mr Q = ((tw_kd g a = 20 ∧ vp_in v (tw_ln g a)) ∧ tw_E sc d 165 6 [x0, x1, x2] (.int (mi a v.toNatClampNeg) :: st) g mi mr Q) := tw_x_iald td_165_5
theorem td_165_6 : decode (tw_cd 165) 6 = .ok (.iload_n 1, 1) := by decide +kernel
theorem tz_165_6 : tw_E sc d 165 6 [x0, some (.int v), x2] st g mi mr Q = tw_E sc d 165 7 [x0, some (.int v), x2] (.int v :: st) g mi mr Q := tw_x_iload_n td_165_6 rfl
theorem td_165_7 : decode (tw_cd 165) 7 = .ok (.invokestatic 192, 3) := by decide +kernel
theorem tz_165_7 {a0 : Int32} {a1 : Int32} : tw_E sc (d + 1) 165 7 [x0, x1, x2] ([.int a1, .int a0]) g mi mr Q = tw_E sc d 146 0 [some (.int a0), some (.int a1)] [] g mi mr (tw_K sc (d + 1) 165 10 [x0, x1, x2] [] Q) := tw_x_cs (as := [.int a0, .int a1]) (r := []) td_165_7 to_165 tmn_10_192 tc_10_192 rfl rfl rfl rfl rfl
theorem td_165_10 : decode (tw_cd 165) 10 = .ok (.ifCond .ne 27, 3) := by decide +kernel
theorem tz_165_10 : tw_E sc d 165 10 [x0, x1, x2] (.int v :: st) g mi mr Q = if ¬ v = 0 then tw_E sc d 165 37 [x0, x1, x2] st g mi mr Q else tw_E sc d 165 13 [x0, x1, x2] st g mi mr Q := tw_x_if_ne td_165_10 (by decide)
theorem td_165_13 : decode (tw_cd 165) 13 = .ok (.iload_n 2, 1) := by decide +kernel
theorem tz_165_13 : tw_E sc d 165 13 [x0, x1, some (.int v)] st g mi mr Q = tw_E sc d 165 14 [x0, x1, some (.int v)] (.int v :: st) g mi mr Q := tw_x_iload_n td_165_13 rfl
theorem td_165_14 : decode (tw_cd 165) 14 = .ok (.ifCond .eq 19, 3) := by decide +kernel
theorem tz_165_14 : tw_E sc d 165 14 [x0, x1, x2] (.int v :: st) g mi mr Q = if v = 0 then tw_E sc d 165 33 [x0, x1, x2] st g mi mr Q else tw_E sc d 165 17 [x0, x1, x2] st g mi mr Q := tw_x_if_eq td_165_14 (by decide)
theorem td_165_17 : decode (tw_cd 165) 17 = .ok (.aload_n 0, 1) := by decide +kernel
theorem tz_165_17 : tw_E sc d 165 17 [some (.ref a), x1, x2] st g mi mr Q = tw_E sc d 165 18 [some (.ref a), x1, x2] (.ref a :: st) g mi mr Q := tw_x_aload_n td_165_17 rfl
theorem td_165_18 : decode (tw_cd 165) 18 = .ok (.getfield 53, 3) := by decide +kernel
theorem tz_165_18 : tw_E sc d 165 18 [x0, x1, x2] (.ref a :: st) g mi mr Q = (tw_kd g a = 10 ∧ tw_E sc d 165 21 [x0, x1, x2] (va_rf (mr a 21) :: st) g mi mr Q) := tw_x_getr td_165_18 to_165 tf_10_53 (trf_10_21)
theorem td_165_21 : decode (tw_cd 165) 21 = .ok (.iload_n 2, 1) := by decide +kernel
theorem tz_165_21 : tw_E sc d 165 21 [x0, x1, some (.int v)] st g mi mr Q = tw_E sc d 165 22 [x0, x1, some (.int v)] (.int v :: st) g mi mr Q := tw_x_iload_n td_165_21 rfl
theorem td_165_22 : decode (tw_cd 165) 22 = .ok (.iconst 1, 1) := by decide +kernel
theorem tz_165_22 : tw_E sc d 165 22 [x0, x1, x2] st g mi mr Q = tw_E sc d 165 23 [x0, x1, x2] (.int 1 :: st) g mi mr Q := tw_x_iconst td_165_22 (by decide)
theorem td_165_23 : decode (tw_cd 165) 23 = .ok (.isub, 1) := by decide +kernel
theorem tz_165_23 : tw_E sc d 165 23 [x0, x1, x2] (.int w :: .int v :: st) g mi mr Q = tw_E sc d 165 24 [x0, x1, x2] (.int (v - w) :: st) g mi mr Q := tw_x_isub td_165_23
theorem td_165_24 : decode (tw_cd 165) 24 = .ok (.iaload, 1) := by decide +kernel
theorem tz_165_24 : tw_E sc d 165 24 [x0, x1, x2] (.int v :: .ref a :: st) g mi mr Q = ((tw_kd g a = 20 ∧ vp_in v (tw_ln g a)) ∧ tw_E sc d 165 25 [x0, x1, x2] (.int (mi a v.toNatClampNeg) :: st) g mi mr Q) := tw_x_iald td_165_24
theorem td_165_25 : decode (tw_cd 165) 25 = .ok (.iload_n 1, 1) := by decide +kernel
theorem tz_165_25 : tw_E sc d 165 25 [x0, some (.int v), x2] st g mi mr Q = tw_E sc d 165 26 [x0, some (.int v), x2] (.int v :: st) g mi mr Q := tw_x_iload_n td_165_25 rfl
theorem td_165_26 : decode (tw_cd 165) 26 = .ok (.invokestatic 192, 3) := by decide +kernel
theorem tz_165_26 {a0 : Int32} {a1 : Int32} : tw_E sc (d + 1) 165 26 [x0, x1, x2] ([.int a1, .int a0]) g mi mr Q = tw_E sc d 146 0 [some (.int a0), some (.int a1)] [] g mi mr (tw_K sc (d + 1) 165 29 [x0, x1, x2] [] Q) := tw_x_cs (as := [.int a0, .int a1]) (r := []) td_165_26 to_165 tmn_10_192 tc_10_192 rfl rfl rfl rfl rfl
theorem td_165_29 : decode (tw_cd 165) 29 = .ok (.iconst 1, 1) := by decide +kernel
theorem tz_165_29 : tw_E sc d 165 29 [x0, x1, x2] st g mi mr Q = tw_E sc d 165 30 [x0, x1, x2] (.int 1 :: st) g mi mr Q := tw_x_iconst td_165_29 (by decide)
theorem td_165_30 : decode (tw_cd 165) 30 = .ok (.if_icmp .ne 7, 3) := by decide +kernel
theorem tz_165_30 : tw_E sc d 165 30 [x0, x1, x2] (.int w :: .int v :: st) g mi mr Q = if ¬ v = w then tw_E sc d 165 37 [x0, x1, x2] st g mi mr Q else tw_E sc d 165 33 [x0, x1, x2] st g mi mr Q := tw_x_ic_ne td_165_30 (by decide)
theorem td_165_33 : decode (tw_cd 165) 33 = .ok (.iconst 1, 1) := by decide +kernel
theorem tz_165_33 : tw_E sc d 165 33 [x0, x1, x2] st g mi mr Q = tw_E sc d 165 34 [x0, x1, x2] (.int 1 :: st) g mi mr Q := tw_x_iconst td_165_33 (by decide)
theorem td_165_34 : decode (tw_cd 165) 34 = .ok (.goto 4, 3) := by decide +kernel
theorem tz_165_34 : tw_E sc d 165 34 [x0, x1, x2] st g mi mr Q = tw_E sc d 165 38 [x0, x1, x2] st g mi mr Q := tw_x_goto td_165_34 (by decide)
theorem td_165_37 : decode (tw_cd 165) 37 = .ok (.iconst 0, 1) := by decide +kernel
theorem tz_165_37 : tw_E sc d 165 37 [x0, x1, x2] st g mi mr Q = tw_E sc d 165 38 [x0, x1, x2] (.int 0 :: st) g mi mr Q := tw_x_iconst td_165_37 (by decide)
theorem td_165_38 : decode (tw_cd 165) 38 = .ok (.ireturn, 1) := by decide +kernel
theorem tz_165_38 : tw_E sc d 165 38 [x0, x1, x2] ([.int v]) g mi mr Q = ((v = 0 ∨ v = 1) ∧ Q (some (.int v)) g mi mr) := tw_x_zret td_165_38 tr_165
end tz_165
-- 166: Mo_frame
section tz_166
variable {sc : Nat × (Nat → Int32)} {d : Nat} {x0 x1 x2 x3 x4 x5 x6 x7 : Option Value} {st : List Value} {g : tw_G} {mi : tw_I} {mr : tw_Q} {Q : Option Value → tw_G → tw_I → tw_Q → Prop} {v w u : Int32} {a b : Nat} {j h : Int64} {s1 s2 s3 s4 : Value}
theorem td_166_0 : decode (tw_cd 166) 0 = .ok (.iload_n 2, 1) := by decide +kernel
theorem tz_166_0 : tw_E sc d 166 0 [x0, x1, some (.int v), x3, x4, x5, x6, x7] st g mi mr Q = tw_E sc d 166 1 [x0, x1, some (.int v), x3, x4, x5, x6, x7] (.int v :: st) g mi mr Q := tw_x_iload_n td_166_0 rfl
theorem td_166_1 : decode (tw_cd 166) 1 = .ok (.iconst 2, 1) := by decide +kernel
theorem tz_166_1 : tw_E sc d 166 1 [x0, x1, x2, x3, x4, x5, x6, x7] st g mi mr Q = tw_E sc d 166 2 [x0, x1, x2, x3, x4, x5, x6, x7] (.int 2 :: st) g mi mr Q := tw_x_iconst td_166_1 (by decide)
theorem td_166_2 : decode (tw_cd 166) 2 = .ok (.idiv, 1) := by decide +kernel
theorem tz_166_2 : tw_E sc d 166 2 [x0, x1, x2, x3, x4, x5, x6, x7] (.int w :: .int v :: st) g mi mr Q = (¬ w = 0 ∧ tw_E sc d 166 3 [x0, x1, x2, x3, x4, x5, x6, x7] (.int (v / w) :: st) g mi mr Q) := tw_x_idiv td_166_2
theorem td_166_3 : decode (tw_cd 166) 3 = .ok (.istore 4, 2) := by decide +kernel
theorem tz_166_3 : tw_E sc d 166 3 [x0, x1, x2, x3, x4, x5, x6, x7] (.int v :: st) g mi mr Q = tw_E sc d 166 5 [x0, x1, x2, x3, some (.int v), x5, x6, x7] st g mi mr Q := tw_x_istore td_166_3 tp_166 rfl
theorem td_166_5 : decode (tw_cd 166) 5 = .ok (.iload_n 3, 1) := by decide +kernel
theorem tz_166_5 : tw_E sc d 166 5 [x0, x1, x2, some (.int v), x4, x5, x6, x7] st g mi mr Q = tw_E sc d 166 6 [x0, x1, x2, some (.int v), x4, x5, x6, x7] (.int v :: st) g mi mr Q := tw_x_iload_n td_166_5 rfl
theorem td_166_6 : decode (tw_cd 166) 6 = .ok (.iload 4, 2) := by decide +kernel
theorem tz_166_6 : tw_E sc d 166 6 [x0, x1, x2, x3, some (.int v), x5, x6, x7] st g mi mr Q = tw_E sc d 166 8 [x0, x1, x2, x3, some (.int v), x5, x6, x7] (.int v :: st) g mi mr Q := tw_x_iload td_166_6 rfl
theorem td_166_8 : decode (tw_cd 166) 8 = .ok (.iadd, 1) := by decide +kernel
theorem tz_166_8 : tw_E sc d 166 8 [x0, x1, x2, x3, x4, x5, x6, x7] (.int w :: .int v :: st) g mi mr Q = tw_E sc d 166 9 [x0, x1, x2, x3, x4, x5, x6, x7] (.int (v + w) :: st) g mi mr Q := tw_x_iadd td_166_8
theorem td_166_9 : decode (tw_cd 166) 9 = .ok (.aload_n 0, 1) := by decide +kernel
theorem tz_166_9 : tw_E sc d 166 9 [some (.ref a), x1, x2, x3, x4, x5, x6, x7] st g mi mr Q = tw_E sc d 166 10 [some (.ref a), x1, x2, x3, x4, x5, x6, x7] (.ref a :: st) g mi mr Q := tw_x_aload_n td_166_9 rfl
theorem td_166_10 : decode (tw_cd 166) 10 = .ok (.getfield 185, 3) := by decide +kernel
theorem tz_166_10 : tw_E sc d 166 10 [x0, x1, x2, x3, x4, x5, x6, x7] (.ref a :: st) g mi mr Q = (tw_kd g a = 10 ∧ tw_E sc d 166 13 [x0, x1, x2, x3, x4, x5, x6, x7] (.int (mi a 20) :: st) g mi mr Q) := tw_x_geti td_166_10 to_166 tf_10_185 (trf_10_20)
theorem td_166_13 : decode (tw_cd 166) 13 = .ok (.if_icmp .lt 6, 3) := by decide +kernel
theorem tz_166_13 : tw_E sc d 166 13 [x0, x1, x2, x3, x4, x5, x6, x7] (.int w :: .int v :: st) g mi mr Q = if v < w then tw_E sc d 166 19 [x0, x1, x2, x3, x4, x5, x6, x7] st g mi mr Q else tw_E sc d 166 16 [x0, x1, x2, x3, x4, x5, x6, x7] st g mi mr Q := tw_x_ic_lt td_166_13 (by decide)
theorem td_166_16 : decode (tw_cd 166) 16 = .ok (.bipush (-9), 2) := by decide +kernel
theorem tz_166_16 : tw_E sc d 166 16 [x0, x1, x2, x3, x4, x5, x6, x7] st g mi mr Q = tw_E sc d 166 18 [x0, x1, x2, x3, x4, x5, x6, x7] (.int (-9) :: st) g mi mr Q := tw_x_bipush td_166_16 (by decide)
theorem td_166_18 : decode (tw_cd 166) 18 = .ok (.ireturn, 1) := by decide +kernel
theorem tz_166_18 : tw_E sc d 166 18 [x0, x1, x2, x3, x4, x5, x6, x7] ([.int v]) g mi mr Q = Q (some (.int v)) g mi mr := tw_x_iret td_166_18 tr_166
theorem td_166_19 : decode (tw_cd 166) 19 = .ok (.aload_n 0, 1) := by decide +kernel
theorem tz_166_19 : tw_E sc d 166 19 [some (.ref a), x1, x2, x3, x4, x5, x6, x7] st g mi mr Q = tw_E sc d 166 20 [some (.ref a), x1, x2, x3, x4, x5, x6, x7] (.ref a :: st) g mi mr Q := tw_x_aload_n td_166_19 rfl
theorem td_166_20 : decode (tw_cd 166) 20 = .ok (.getfield 53, 3) := by decide +kernel
theorem tz_166_20 : tw_E sc d 166 20 [x0, x1, x2, x3, x4, x5, x6, x7] (.ref a :: st) g mi mr Q = (tw_kd g a = 10 ∧ tw_E sc d 166 23 [x0, x1, x2, x3, x4, x5, x6, x7] (va_rf (mr a 21) :: st) g mi mr Q) := tw_x_getr td_166_20 to_166 tf_10_53 (trf_10_21)
theorem td_166_23 : decode (tw_cd 166) 23 = .ok (.iload_n 3, 1) := by decide +kernel
theorem tz_166_23 : tw_E sc d 166 23 [x0, x1, x2, some (.int v), x4, x5, x6, x7] st g mi mr Q = tw_E sc d 166 24 [x0, x1, x2, some (.int v), x4, x5, x6, x7] (.int v :: st) g mi mr Q := tw_x_iload_n td_166_23 rfl
theorem td_166_24 : decode (tw_cd 166) 24 = .ok (.iload 4, 2) := by decide +kernel
theorem tz_166_24 : tw_E sc d 166 24 [x0, x1, x2, x3, some (.int v), x5, x6, x7] st g mi mr Q = tw_E sc d 166 26 [x0, x1, x2, x3, some (.int v), x5, x6, x7] (.int v :: st) g mi mr Q := tw_x_iload td_166_24 rfl
theorem td_166_26 : decode (tw_cd 166) 26 = .ok (.iadd, 1) := by decide +kernel
theorem tz_166_26 : tw_E sc d 166 26 [x0, x1, x2, x3, x4, x5, x6, x7] (.int w :: .int v :: st) g mi mr Q = tw_E sc d 166 27 [x0, x1, x2, x3, x4, x5, x6, x7] (.int (v + w) :: st) g mi mr Q := tw_x_iadd td_166_26
theorem td_166_27 : decode (tw_cd 166) 27 = .ok (.iaload, 1) := by decide +kernel
theorem tz_166_27 : tw_E sc d 166 27 [x0, x1, x2, x3, x4, x5, x6, x7] (.int v :: .ref a :: st) g mi mr Q = ((tw_kd g a = 20 ∧ vp_in v (tw_ln g a)) ∧ tw_E sc d 166 28 [x0, x1, x2, x3, x4, x5, x6, x7] (.int (mi a v.toNatClampNeg) :: st) g mi mr Q) := tw_x_iald td_166_27
theorem td_166_28 : decode (tw_cd 166) 28 = .ok (.iload_n 1, 1) := by decide +kernel
theorem tz_166_28 : tw_E sc d 166 28 [x0, some (.int v), x2, x3, x4, x5, x6, x7] st g mi mr Q = tw_E sc d 166 29 [x0, some (.int v), x2, x3, x4, x5, x6, x7] (.int v :: st) g mi mr Q := tw_x_iload_n td_166_28 rfl
theorem td_166_29 : decode (tw_cd 166) 29 = .ok (.invokestatic 192, 3) := by decide +kernel
theorem tz_166_29 {a0 : Int32} {a1 : Int32} : tw_E sc (d + 1) 166 29 [x0, x1, x2, x3, x4, x5, x6, x7] ([.int a1, .int a0]) g mi mr Q = tw_E sc d 146 0 [some (.int a0), some (.int a1)] [] g mi mr (tw_K sc (d + 1) 166 32 [x0, x1, x2, x3, x4, x5, x6, x7] [] Q) := tw_x_cs (as := [.int a0, .int a1]) (r := []) td_166_29 to_166 tmn_10_192 tc_10_192 rfl rfl rfl rfl rfl
theorem td_166_32 : decode (tw_cd 166) 32 = .ok (.iconst 1, 1) := by decide +kernel
theorem tz_166_32 : tw_E sc d 166 32 [x0, x1, x2, x3, x4, x5, x6, x7] st g mi mr Q = tw_E sc d 166 33 [x0, x1, x2, x3, x4, x5, x6, x7] (.int 1 :: st) g mi mr Q := tw_x_iconst td_166_32 (by decide)
theorem td_166_33 : decode (tw_cd 166) 33 = .ok (.if_icmp .ne 19, 3) := by decide +kernel
theorem tz_166_33 : tw_E sc d 166 33 [x0, x1, x2, x3, x4, x5, x6, x7] (.int w :: .int v :: st) g mi mr Q = if ¬ v = w then tw_E sc d 166 52 [x0, x1, x2, x3, x4, x5, x6, x7] st g mi mr Q else tw_E sc d 166 36 [x0, x1, x2, x3, x4, x5, x6, x7] st g mi mr Q := tw_x_ic_ne td_166_33 (by decide)
theorem td_166_36 : decode (tw_cd 166) 36 = .ok (.aload_n 0, 1) := by decide +kernel
theorem tz_166_36 : tw_E sc d 166 36 [some (.ref a), x1, x2, x3, x4, x5, x6, x7] st g mi mr Q = tw_E sc d 166 37 [some (.ref a), x1, x2, x3, x4, x5, x6, x7] (.ref a :: st) g mi mr Q := tw_x_aload_n td_166_36 rfl
theorem td_166_37 : decode (tw_cd 166) 37 = .ok (.iconst 3, 1) := by decide +kernel
theorem tz_166_37 : tw_E sc d 166 37 [x0, x1, x2, x3, x4, x5, x6, x7] st g mi mr Q = tw_E sc d 166 38 [x0, x1, x2, x3, x4, x5, x6, x7] (.int 3 :: st) g mi mr Q := tw_x_iconst td_166_37 (by decide)
theorem td_166_38 : decode (tw_cd 166) 38 = .ok (.bipush (-9), 2) := by decide +kernel
theorem tz_166_38 : tw_E sc d 166 38 [x0, x1, x2, x3, x4, x5, x6, x7] st g mi mr Q = tw_E sc d 166 40 [x0, x1, x2, x3, x4, x5, x6, x7] (.int (-9) :: st) g mi mr Q := tw_x_bipush td_166_38 (by decide)
theorem td_166_40 : decode (tw_cd 166) 40 = .ok (.iload_n 3, 1) := by decide +kernel
theorem tz_166_40 : tw_E sc d 166 40 [x0, x1, x2, some (.int v), x4, x5, x6, x7] st g mi mr Q = tw_E sc d 166 41 [x0, x1, x2, some (.int v), x4, x5, x6, x7] (.int v :: st) g mi mr Q := tw_x_iload_n td_166_40 rfl
theorem td_166_41 : decode (tw_cd 166) 41 = .ok (.iload 4, 2) := by decide +kernel
theorem tz_166_41 : tw_E sc d 166 41 [x0, x1, x2, x3, some (.int v), x5, x6, x7] st g mi mr Q = tw_E sc d 166 43 [x0, x1, x2, x3, some (.int v), x5, x6, x7] (.int v :: st) g mi mr Q := tw_x_iload td_166_41 rfl
theorem td_166_43 : decode (tw_cd 166) 43 = .ok (.iadd, 1) := by decide +kernel
theorem tz_166_43 : tw_E sc d 166 43 [x0, x1, x2, x3, x4, x5, x6, x7] (.int w :: .int v :: st) g mi mr Q = tw_E sc d 166 44 [x0, x1, x2, x3, x4, x5, x6, x7] (.int (v + w) :: st) g mi mr Q := tw_x_iadd td_166_43
theorem td_166_44 : decode (tw_cd 166) 44 = .ok (.invokevirtual 228, 3) := by decide +kernel
theorem tz_166_44 {a0 : Int32} {a1 : Int32} {a2 : Int32} : tw_E sc (d + 1) 166 44 [x0, x1, x2, x3, x4, x5, x6, x7] ([.int a2, .int a1, .int a0, .ref a]) g mi mr Q = (tw_kd g a = 10 ∧ tw_E sc d 164 0 [some (.ref a), some (.int a0), some (.int a1), some (.int a2)] [] g mi mr (tw_K sc (d + 1) 166 47 [x0, x1, x2, x3, x4, x5, x6, x7] [] Q)) := tw_x_cv (as := [.int a0, .int a1, .int a2]) (r := []) td_166_44 to_166 tc_10_228 to_164 rfl rfl rfl rfl
theorem td_166_47 : decode (tw_cd 166) 47 = .ok (.iload_n 3, 1) := by decide +kernel
theorem tz_166_47 : tw_E sc d 166 47 [x0, x1, x2, some (.int v), x4, x5, x6, x7] st g mi mr Q = tw_E sc d 166 48 [x0, x1, x2, some (.int v), x4, x5, x6, x7] (.int v :: st) g mi mr Q := tw_x_iload_n td_166_47 rfl
theorem td_166_48 : decode (tw_cd 166) 48 = .ok (.iload 4, 2) := by decide +kernel
theorem tz_166_48 : tw_E sc d 166 48 [x0, x1, x2, x3, some (.int v), x5, x6, x7] st g mi mr Q = tw_E sc d 166 50 [x0, x1, x2, x3, some (.int v), x5, x6, x7] (.int v :: st) g mi mr Q := tw_x_iload td_166_48 rfl
theorem td_166_50 : decode (tw_cd 166) 50 = .ok (.iadd, 1) := by decide +kernel
theorem tz_166_50 : tw_E sc d 166 50 [x0, x1, x2, x3, x4, x5, x6, x7] (.int w :: .int v :: st) g mi mr Q = tw_E sc d 166 51 [x0, x1, x2, x3, x4, x5, x6, x7] (.int (v + w) :: st) g mi mr Q := tw_x_iadd td_166_50
theorem td_166_51 : decode (tw_cd 166) 51 = .ok (.ireturn, 1) := by decide +kernel
theorem tz_166_51 : tw_E sc d 166 51 [x0, x1, x2, x3, x4, x5, x6, x7] ([.int v]) g mi mr Q = Q (some (.int v)) g mi mr := tw_x_iret td_166_51 tr_166
theorem td_166_52 : decode (tw_cd 166) 52 = .ok (.iconst 0, 1) := by decide +kernel
theorem tz_166_52 : tw_E sc d 166 52 [x0, x1, x2, x3, x4, x5, x6, x7] st g mi mr Q = tw_E sc d 166 53 [x0, x1, x2, x3, x4, x5, x6, x7] (.int 0 :: st) g mi mr Q := tw_x_iconst td_166_52 (by decide)
theorem td_166_53 : decode (tw_cd 166) 53 = .ok (.istore 5, 2) := by decide +kernel
theorem tz_166_53 : tw_E sc d 166 53 [x0, x1, x2, x3, x4, x5, x6, x7] (.int v :: st) g mi mr Q = tw_E sc d 166 55 [x0, x1, x2, x3, x4, some (.int v), x6, x7] st g mi mr Q := tw_x_istore td_166_53 tp_166 rfl
theorem td_166_55 : decode (tw_cd 166) 55 = .ok (.iload_n 3, 1) := by decide +kernel
theorem tz_166_55 : tw_E sc d 166 55 [x0, x1, x2, some (.int v), x4, x5, x6, x7] st g mi mr Q = tw_E sc d 166 56 [x0, x1, x2, some (.int v), x4, x5, x6, x7] (.int v :: st) g mi mr Q := tw_x_iload_n td_166_55 rfl
theorem td_166_56 : decode (tw_cd 166) 56 = .ok (.bipush 9, 2) := by decide +kernel
theorem tz_166_56 : tw_E sc d 166 56 [x0, x1, x2, x3, x4, x5, x6, x7] st g mi mr Q = tw_E sc d 166 58 [x0, x1, x2, x3, x4, x5, x6, x7] (.int 9 :: st) g mi mr Q := tw_x_bipush td_166_56 (by decide)
theorem td_166_58 : decode (tw_cd 166) 58 = .ok (.iload_n 2, 1) := by decide +kernel
theorem tz_166_58 : tw_E sc d 166 58 [x0, x1, some (.int v), x3, x4, x5, x6, x7] st g mi mr Q = tw_E sc d 166 59 [x0, x1, some (.int v), x3, x4, x5, x6, x7] (.int v :: st) g mi mr Q := tw_x_iload_n td_166_58 rfl
theorem td_166_59 : decode (tw_cd 166) 59 = .ok (.imul, 1) := by decide +kernel
theorem tz_166_59 : tw_E sc d 166 59 [x0, x1, x2, x3, x4, x5, x6, x7] (.int w :: .int v :: st) g mi mr Q = tw_E sc d 166 60 [x0, x1, x2, x3, x4, x5, x6, x7] (.int (v * w) :: st) g mi mr Q := tw_x_imul td_166_59
theorem td_166_60 : decode (tw_cd 166) 60 = .ok (.iadd, 1) := by decide +kernel
theorem tz_166_60 : tw_E sc d 166 60 [x0, x1, x2, x3, x4, x5, x6, x7] (.int w :: .int v :: st) g mi mr Q = tw_E sc d 166 61 [x0, x1, x2, x3, x4, x5, x6, x7] (.int (v + w) :: st) g mi mr Q := tw_x_iadd td_166_60
theorem td_166_61 : decode (tw_cd 166) 61 = .ok (.iload 4, 2) := by decide +kernel
theorem tz_166_61 : tw_E sc d 166 61 [x0, x1, x2, x3, some (.int v), x5, x6, x7] st g mi mr Q = tw_E sc d 166 63 [x0, x1, x2, x3, some (.int v), x5, x6, x7] (.int v :: st) g mi mr Q := tw_x_iload td_166_61 rfl
theorem td_166_63 : decode (tw_cd 166) 63 = .ok (.iadd, 1) := by decide +kernel
theorem tz_166_63 : tw_E sc d 166 63 [x0, x1, x2, x3, x4, x5, x6, x7] (.int w :: .int v :: st) g mi mr Q = tw_E sc d 166 64 [x0, x1, x2, x3, x4, x5, x6, x7] (.int (v + w) :: st) g mi mr Q := tw_x_iadd td_166_63
theorem td_166_64 : decode (tw_cd 166) 64 = .ok (.istore 6, 2) := by decide +kernel
theorem tz_166_64 : tw_E sc d 166 64 [x0, x1, x2, x3, x4, x5, x6, x7] (.int v :: st) g mi mr Q = tw_E sc d 166 66 [x0, x1, x2, x3, x4, x5, some (.int v), x7] st g mi mr Q := tw_x_istore td_166_64 tp_166 rfl
theorem td_166_66 : decode (tw_cd 166) 66 = .ok (.iload 6, 2) := by decide +kernel
theorem tz_166_66 : tw_E sc d 166 66 [x0, x1, x2, x3, x4, x5, some (.int v), x7] st g mi mr Q = tw_E sc d 166 68 [x0, x1, x2, x3, x4, x5, some (.int v), x7] (.int v :: st) g mi mr Q := tw_x_iload td_166_66 rfl
theorem td_166_68 : decode (tw_cd 166) 68 = .ok (.aload_n 0, 1) := by decide +kernel
theorem tz_166_68 : tw_E sc d 166 68 [some (.ref a), x1, x2, x3, x4, x5, x6, x7] st g mi mr Q = tw_E sc d 166 69 [some (.ref a), x1, x2, x3, x4, x5, x6, x7] (.ref a :: st) g mi mr Q := tw_x_aload_n td_166_68 rfl
theorem td_166_69 : decode (tw_cd 166) 69 = .ok (.getfield 185, 3) := by decide +kernel
theorem tz_166_69 : tw_E sc d 166 69 [x0, x1, x2, x3, x4, x5, x6, x7] (.ref a :: st) g mi mr Q = (tw_kd g a = 10 ∧ tw_E sc d 166 72 [x0, x1, x2, x3, x4, x5, x6, x7] (.int (mi a 20) :: st) g mi mr Q) := tw_x_geti td_166_69 to_166 tf_10_185 (trf_10_20)
theorem td_166_72 : decode (tw_cd 166) 72 = .ok (.if_icmp .lt 6, 3) := by decide +kernel
theorem tz_166_72 : tw_E sc d 166 72 [x0, x1, x2, x3, x4, x5, x6, x7] (.int w :: .int v :: st) g mi mr Q = if v < w then tw_E sc d 166 78 [x0, x1, x2, x3, x4, x5, x6, x7] st g mi mr Q else tw_E sc d 166 75 [x0, x1, x2, x3, x4, x5, x6, x7] st g mi mr Q := tw_x_ic_lt td_166_72 (by decide)
theorem td_166_75 : decode (tw_cd 166) 75 = .ok (.bipush (-9), 2) := by decide +kernel
theorem tz_166_75 : tw_E sc d 166 75 [x0, x1, x2, x3, x4, x5, x6, x7] st g mi mr Q = tw_E sc d 166 77 [x0, x1, x2, x3, x4, x5, x6, x7] (.int (-9) :: st) g mi mr Q := tw_x_bipush td_166_75 (by decide)
theorem td_166_77 : decode (tw_cd 166) 77 = .ok (.ireturn, 1) := by decide +kernel
theorem tz_166_77 : tw_E sc d 166 77 [x0, x1, x2, x3, x4, x5, x6, x7] ([.int v]) g mi mr Q = Q (some (.int v)) g mi mr := tw_x_iret td_166_77 tr_166
theorem td_166_78 : decode (tw_cd 166) 78 = .ok (.iconst 0, 1) := by decide +kernel
theorem tz_166_78 : tw_E sc d 166 78 [x0, x1, x2, x3, x4, x5, x6, x7] st g mi mr Q = tw_E sc d 166 79 [x0, x1, x2, x3, x4, x5, x6, x7] (.int 0 :: st) g mi mr Q := tw_x_iconst td_166_78 (by decide)
theorem td_166_79 : decode (tw_cd 166) 79 = .ok (.istore 7, 2) := by decide +kernel
theorem tz_166_79 : tw_E sc d 166 79 [x0, x1, x2, x3, x4, x5, x6, x7] (.int v :: st) g mi mr Q = tw_E sc d 166 81 [x0, x1, x2, x3, x4, x5, x6, some (.int v)] st g mi mr Q := tw_x_istore td_166_79 tp_166 rfl
theorem td_166_81 : decode (tw_cd 166) 81 = .ok (.iload 7, 2) := by decide +kernel
theorem tz_166_81 : tw_E sc d 166 81 [x0, x1, x2, x3, x4, x5, x6, some (.int v)] st g mi mr Q = tw_E sc d 166 83 [x0, x1, x2, x3, x4, x5, x6, some (.int v)] (.int v :: st) g mi mr Q := tw_x_iload td_166_81 rfl
theorem td_166_83 : decode (tw_cd 166) 83 = .ok (.bipush 8, 2) := by decide +kernel
theorem tz_166_83 : tw_E sc d 166 83 [x0, x1, x2, x3, x4, x5, x6, x7] st g mi mr Q = tw_E sc d 166 85 [x0, x1, x2, x3, x4, x5, x6, x7] (.int 8 :: st) g mi mr Q := tw_x_bipush td_166_83 (by decide)
theorem td_166_85 : decode (tw_cd 166) 85 = .ok (.if_icmp .ge 37, 3) := by decide +kernel
theorem tz_166_85 : tw_E sc d 166 85 [x0, x1, x2, x3, x4, x5, x6, x7] (.int w :: .int v :: st) g mi mr Q = if w ≤ v then tw_E sc d 166 122 [x0, x1, x2, x3, x4, x5, x6, x7] st g mi mr Q else tw_E sc d 166 88 [x0, x1, x2, x3, x4, x5, x6, x7] st g mi mr Q := tw_x_ic_ge td_166_85 (by decide)
theorem td_166_88 : decode (tw_cd 166) 88 = .ok (.iload 5, 2) := by decide +kernel
theorem tz_166_88 : tw_E sc d 166 88 [x0, x1, x2, x3, x4, some (.int v), x6, x7] st g mi mr Q = tw_E sc d 166 90 [x0, x1, x2, x3, x4, some (.int v), x6, x7] (.int v :: st) g mi mr Q := tw_x_iload td_166_88 rfl
theorem td_166_90 : decode (tw_cd 166) 90 = .ok (.aload_n 0, 1) := by decide +kernel
theorem tz_166_90 : tw_E sc d 166 90 [some (.ref a), x1, x2, x3, x4, x5, x6, x7] st g mi mr Q = tw_E sc d 166 91 [some (.ref a), x1, x2, x3, x4, x5, x6, x7] (.ref a :: st) g mi mr Q := tw_x_aload_n td_166_90 rfl
theorem td_166_91 : decode (tw_cd 166) 91 = .ok (.getfield 53, 3) := by decide +kernel
theorem tz_166_91 : tw_E sc d 166 91 [x0, x1, x2, x3, x4, x5, x6, x7] (.ref a :: st) g mi mr Q = (tw_kd g a = 10 ∧ tw_E sc d 166 94 [x0, x1, x2, x3, x4, x5, x6, x7] (va_rf (mr a 21) :: st) g mi mr Q) := tw_x_getr td_166_91 to_166 tf_10_53 (trf_10_21)
theorem td_166_94 : decode (tw_cd 166) 94 = .ok (.iload_n 3, 1) := by decide +kernel
theorem tz_166_94 : tw_E sc d 166 94 [x0, x1, x2, some (.int v), x4, x5, x6, x7] st g mi mr Q = tw_E sc d 166 95 [x0, x1, x2, some (.int v), x4, x5, x6, x7] (.int v :: st) g mi mr Q := tw_x_iload_n td_166_94 rfl
theorem td_166_95 : decode (tw_cd 166) 95 = .ok (.iload_n 2, 1) := by decide +kernel
theorem tz_166_95 : tw_E sc d 166 95 [x0, x1, some (.int v), x3, x4, x5, x6, x7] st g mi mr Q = tw_E sc d 166 96 [x0, x1, some (.int v), x3, x4, x5, x6, x7] (.int v :: st) g mi mr Q := tw_x_iload_n td_166_95 rfl
theorem td_166_96 : decode (tw_cd 166) 96 = .ok (.iload 7, 2) := by decide +kernel
theorem tz_166_96 : tw_E sc d 166 96 [x0, x1, x2, x3, x4, x5, x6, some (.int v)] st g mi mr Q = tw_E sc d 166 98 [x0, x1, x2, x3, x4, x5, x6, some (.int v)] (.int v :: st) g mi mr Q := tw_x_iload td_166_96 rfl
theorem td_166_98 : decode (tw_cd 166) 98 = .ok (.iconst 1, 1) := by decide +kernel
theorem tz_166_98 : tw_E sc d 166 98 [x0, x1, x2, x3, x4, x5, x6, x7] st g mi mr Q = tw_E sc d 166 99 [x0, x1, x2, x3, x4, x5, x6, x7] (.int 1 :: st) g mi mr Q := tw_x_iconst td_166_98 (by decide)
theorem td_166_99 : decode (tw_cd 166) 99 = .ok (.iadd, 1) := by decide +kernel
theorem tz_166_99 : tw_E sc d 166 99 [x0, x1, x2, x3, x4, x5, x6, x7] (.int w :: .int v :: st) g mi mr Q = tw_E sc d 166 100 [x0, x1, x2, x3, x4, x5, x6, x7] (.int (v + w) :: st) g mi mr Q := tw_x_iadd td_166_99
theorem td_166_100 : decode (tw_cd 166) 100 = .ok (.imul, 1) := by decide +kernel
theorem tz_166_100 : tw_E sc d 166 100 [x0, x1, x2, x3, x4, x5, x6, x7] (.int w :: .int v :: st) g mi mr Q = tw_E sc d 166 101 [x0, x1, x2, x3, x4, x5, x6, x7] (.int (v * w) :: st) g mi mr Q := tw_x_imul td_166_100
theorem td_166_101 : decode (tw_cd 166) 101 = .ok (.iadd, 1) := by decide +kernel
theorem tz_166_101 : tw_E sc d 166 101 [x0, x1, x2, x3, x4, x5, x6, x7] (.int w :: .int v :: st) g mi mr Q = tw_E sc d 166 102 [x0, x1, x2, x3, x4, x5, x6, x7] (.int (v + w) :: st) g mi mr Q := tw_x_iadd td_166_101
theorem td_166_102 : decode (tw_cd 166) 102 = .ok (.iload 4, 2) := by decide +kernel
theorem tz_166_102 : tw_E sc d 166 102 [x0, x1, x2, x3, some (.int v), x5, x6, x7] st g mi mr Q = tw_E sc d 166 104 [x0, x1, x2, x3, some (.int v), x5, x6, x7] (.int v :: st) g mi mr Q := tw_x_iload td_166_102 rfl
theorem td_166_104 : decode (tw_cd 166) 104 = .ok (.iadd, 1) := by decide +kernel
theorem tz_166_104 : tw_E sc d 166 104 [x0, x1, x2, x3, x4, x5, x6, x7] (.int w :: .int v :: st) g mi mr Q = tw_E sc d 166 105 [x0, x1, x2, x3, x4, x5, x6, x7] (.int (v + w) :: st) g mi mr Q := tw_x_iadd td_166_104
theorem td_166_105 : decode (tw_cd 166) 105 = .ok (.iaload, 1) := by decide +kernel
theorem tz_166_105 : tw_E sc d 166 105 [x0, x1, x2, x3, x4, x5, x6, x7] (.int v :: .ref a :: st) g mi mr Q = ((tw_kd g a = 20 ∧ vp_in v (tw_ln g a)) ∧ tw_E sc d 166 106 [x0, x1, x2, x3, x4, x5, x6, x7] (.int (mi a v.toNatClampNeg) :: st) g mi mr Q) := tw_x_iald td_166_105
theorem td_166_106 : decode (tw_cd 166) 106 = .ok (.iload_n 1, 1) := by decide +kernel
theorem tz_166_106 : tw_E sc d 166 106 [x0, some (.int v), x2, x3, x4, x5, x6, x7] st g mi mr Q = tw_E sc d 166 107 [x0, some (.int v), x2, x3, x4, x5, x6, x7] (.int v :: st) g mi mr Q := tw_x_iload_n td_166_106 rfl
theorem td_166_107 : decode (tw_cd 166) 107 = .ok (.invokestatic 192, 3) := by decide +kernel
theorem tz_166_107 {a0 : Int32} {a1 : Int32} : tw_E sc (d + 1) 166 107 [x0, x1, x2, x3, x4, x5, x6, x7] ([.int a1, .int a0, s1]) g mi mr Q = tw_E sc d 146 0 [some (.int a0), some (.int a1)] [] g mi mr (tw_K sc (d + 1) 166 110 [x0, x1, x2, x3, x4, x5, x6, x7] [s1] Q) := tw_x_cs (as := [.int a0, .int a1]) (r := [s1]) td_166_107 to_166 tmn_10_192 tc_10_192 rfl rfl rfl rfl rfl
theorem td_166_110 : decode (tw_cd 166) 110 = .ok (.iload 7, 2) := by decide +kernel
theorem tz_166_110 : tw_E sc d 166 110 [x0, x1, x2, x3, x4, x5, x6, some (.int v)] st g mi mr Q = tw_E sc d 166 112 [x0, x1, x2, x3, x4, x5, x6, some (.int v)] (.int v :: st) g mi mr Q := tw_x_iload td_166_110 rfl
theorem td_166_112 : decode (tw_cd 166) 112 = .ok (.ishl, 1) := by decide +kernel
theorem tz_166_112 : tw_E sc d 166 112 [x0, x1, x2, x3, x4, x5, x6, x7] (.int w :: .int v :: st) g mi mr Q = tw_E sc d 166 113 [x0, x1, x2, x3, x4, x5, x6, x7] (.int (v <<< (w &&& 31)) :: st) g mi mr Q := tw_x_ishl td_166_112
theorem td_166_113 : decode (tw_cd 166) 113 = .ok (.ior, 1) := by decide +kernel
theorem tz_166_113 : tw_E sc d 166 113 [x0, x1, x2, x3, x4, x5, x6, x7] (.int w :: .int v :: st) g mi mr Q = tw_E sc d 166 114 [x0, x1, x2, x3, x4, x5, x6, x7] (.int (v ||| w) :: st) g mi mr Q := tw_x_ior td_166_113
theorem td_166_114 : decode (tw_cd 166) 114 = .ok (.istore 5, 2) := by decide +kernel
theorem tz_166_114 : tw_E sc d 166 114 [x0, x1, x2, x3, x4, x5, x6, x7] (.int v :: st) g mi mr Q = tw_E sc d 166 116 [x0, x1, x2, x3, x4, some (.int v), x6, x7] st g mi mr Q := tw_x_istore td_166_114 tp_166 rfl
theorem td_166_116 : decode (tw_cd 166) 116 = .ok (.iinc 7 1, 3) := by decide +kernel
theorem tz_166_116 : tw_E sc d 166 116 [x0, x1, x2, x3, x4, x5, x6, some (.int v)] st g mi mr Q = tw_E sc d 166 119 [x0, x1, x2, x3, x4, x5, x6, some (.int (v + 1))] st g mi mr Q := tw_x_iinc td_166_116 rfl (by first | rfl | (exact congrArg (v + ·) (by decide))) tp_166 rfl
theorem td_166_119 : decode (tw_cd 166) 119 = .ok (.goto (-38), 3) := by decide +kernel
theorem tz_166_119 : tw_E sc d 166 119 [x0, x1, x2, x3, x4, x5, x6, x7] st g mi mr Q = tw_E sc d 166 81 [x0, x1, x2, x3, x4, x5, x6, x7] st g mi mr Q := tw_x_goto td_166_119 (by decide)
theorem td_166_122 : decode (tw_cd 166) 122 = .ok (.aload_n 0, 1) := by decide +kernel
theorem tz_166_122 : tw_E sc d 166 122 [some (.ref a), x1, x2, x3, x4, x5, x6, x7] st g mi mr Q = tw_E sc d 166 123 [some (.ref a), x1, x2, x3, x4, x5, x6, x7] (.ref a :: st) g mi mr Q := tw_x_aload_n td_166_122 rfl
theorem td_166_123 : decode (tw_cd 166) 123 = .ok (.getfield 53, 3) := by decide +kernel
theorem tz_166_123 : tw_E sc d 166 123 [x0, x1, x2, x3, x4, x5, x6, x7] (.ref a :: st) g mi mr Q = (tw_kd g a = 10 ∧ tw_E sc d 166 126 [x0, x1, x2, x3, x4, x5, x6, x7] (va_rf (mr a 21) :: st) g mi mr Q) := tw_x_getr td_166_123 to_166 tf_10_53 (trf_10_21)
theorem td_166_126 : decode (tw_cd 166) 126 = .ok (.iload 6, 2) := by decide +kernel
theorem tz_166_126 : tw_E sc d 166 126 [x0, x1, x2, x3, x4, x5, some (.int v), x7] st g mi mr Q = tw_E sc d 166 128 [x0, x1, x2, x3, x4, x5, some (.int v), x7] (.int v :: st) g mi mr Q := tw_x_iload td_166_126 rfl
theorem td_166_128 : decode (tw_cd 166) 128 = .ok (.iaload, 1) := by decide +kernel
theorem tz_166_128 : tw_E sc d 166 128 [x0, x1, x2, x3, x4, x5, x6, x7] (.int v :: .ref a :: st) g mi mr Q = ((tw_kd g a = 20 ∧ vp_in v (tw_ln g a)) ∧ tw_E sc d 166 129 [x0, x1, x2, x3, x4, x5, x6, x7] (.int (mi a v.toNatClampNeg) :: st) g mi mr Q) := tw_x_iald td_166_128
theorem td_166_129 : decode (tw_cd 166) 129 = .ok (.iload_n 1, 1) := by decide +kernel
theorem tz_166_129 : tw_E sc d 166 129 [x0, some (.int v), x2, x3, x4, x5, x6, x7] st g mi mr Q = tw_E sc d 166 130 [x0, some (.int v), x2, x3, x4, x5, x6, x7] (.int v :: st) g mi mr Q := tw_x_iload_n td_166_129 rfl
theorem td_166_130 : decode (tw_cd 166) 130 = .ok (.invokestatic 192, 3) := by decide +kernel
theorem tz_166_130 {a0 : Int32} {a1 : Int32} : tw_E sc (d + 1) 166 130 [x0, x1, x2, x3, x4, x5, x6, x7] ([.int a1, .int a0]) g mi mr Q = tw_E sc d 146 0 [some (.int a0), some (.int a1)] [] g mi mr (tw_K sc (d + 1) 166 133 [x0, x1, x2, x3, x4, x5, x6, x7] [] Q) := tw_x_cs (as := [.int a0, .int a1]) (r := []) td_166_130 to_166 tmn_10_192 tc_10_192 rfl rfl rfl rfl rfl
theorem td_166_133 : decode (tw_cd 166) 133 = .ok (.ifCond .ne 15, 3) := by decide +kernel
theorem tz_166_133 : tw_E sc d 166 133 [x0, x1, x2, x3, x4, x5, x6, x7] (.int v :: st) g mi mr Q = if ¬ v = 0 then tw_E sc d 166 148 [x0, x1, x2, x3, x4, x5, x6, x7] st g mi mr Q else tw_E sc d 166 136 [x0, x1, x2, x3, x4, x5, x6, x7] st g mi mr Q := tw_x_if_ne td_166_133 (by decide)
theorem td_166_136 : decode (tw_cd 166) 136 = .ok (.aload_n 0, 1) := by decide +kernel
theorem tz_166_136 : tw_E sc d 166 136 [some (.ref a), x1, x2, x3, x4, x5, x6, x7] st g mi mr Q = tw_E sc d 166 137 [some (.ref a), x1, x2, x3, x4, x5, x6, x7] (.ref a :: st) g mi mr Q := tw_x_aload_n td_166_136 rfl
theorem td_166_137 : decode (tw_cd 166) 137 = .ok (.iconst 3, 1) := by decide +kernel
theorem tz_166_137 : tw_E sc d 166 137 [x0, x1, x2, x3, x4, x5, x6, x7] st g mi mr Q = tw_E sc d 166 138 [x0, x1, x2, x3, x4, x5, x6, x7] (.int 3 :: st) g mi mr Q := tw_x_iconst td_166_137 (by decide)
theorem td_166_138 : decode (tw_cd 166) 138 = .ok (.bipush (-9), 2) := by decide +kernel
theorem tz_166_138 : tw_E sc d 166 138 [x0, x1, x2, x3, x4, x5, x6, x7] st g mi mr Q = tw_E sc d 166 140 [x0, x1, x2, x3, x4, x5, x6, x7] (.int (-9) :: st) g mi mr Q := tw_x_bipush td_166_138 (by decide)
theorem td_166_140 : decode (tw_cd 166) 140 = .ok (.iload 6, 2) := by decide +kernel
theorem tz_166_140 : tw_E sc d 166 140 [x0, x1, x2, x3, x4, x5, some (.int v), x7] st g mi mr Q = tw_E sc d 166 142 [x0, x1, x2, x3, x4, x5, some (.int v), x7] (.int v :: st) g mi mr Q := tw_x_iload td_166_140 rfl
theorem td_166_142 : decode (tw_cd 166) 142 = .ok (.invokevirtual 228, 3) := by decide +kernel
theorem tz_166_142 {a0 : Int32} {a1 : Int32} {a2 : Int32} : tw_E sc (d + 1) 166 142 [x0, x1, x2, x3, x4, x5, x6, x7] ([.int a2, .int a1, .int a0, .ref a]) g mi mr Q = (tw_kd g a = 10 ∧ tw_E sc d 164 0 [some (.ref a), some (.int a0), some (.int a1), some (.int a2)] [] g mi mr (tw_K sc (d + 1) 166 145 [x0, x1, x2, x3, x4, x5, x6, x7] [] Q)) := tw_x_cv (as := [.int a0, .int a1, .int a2]) (r := []) td_166_142 to_166 tc_10_228 to_164 rfl rfl rfl rfl
theorem td_166_145 : decode (tw_cd 166) 145 = .ok (.goto 11, 3) := by decide +kernel
theorem tz_166_145 : tw_E sc d 166 145 [x0, x1, x2, x3, x4, x5, x6, x7] st g mi mr Q = tw_E sc d 166 156 [x0, x1, x2, x3, x4, x5, x6, x7] st g mi mr Q := tw_x_goto td_166_145 (by decide)
theorem td_166_148 : decode (tw_cd 166) 148 = .ok (.aload_n 0, 1) := by decide +kernel
theorem tz_166_148 : tw_E sc d 166 148 [some (.ref a), x1, x2, x3, x4, x5, x6, x7] st g mi mr Q = tw_E sc d 166 149 [some (.ref a), x1, x2, x3, x4, x5, x6, x7] (.ref a :: st) g mi mr Q := tw_x_aload_n td_166_148 rfl
theorem td_166_149 : decode (tw_cd 166) 149 = .ok (.iconst 0, 1) := by decide +kernel
theorem tz_166_149 : tw_E sc d 166 149 [x0, x1, x2, x3, x4, x5, x6, x7] st g mi mr Q = tw_E sc d 166 150 [x0, x1, x2, x3, x4, x5, x6, x7] (.int 0 :: st) g mi mr Q := tw_x_iconst td_166_149 (by decide)
theorem td_166_150 : decode (tw_cd 166) 150 = .ok (.iload 5, 2) := by decide +kernel
theorem tz_166_150 : tw_E sc d 166 150 [x0, x1, x2, x3, x4, some (.int v), x6, x7] st g mi mr Q = tw_E sc d 166 152 [x0, x1, x2, x3, x4, some (.int v), x6, x7] (.int v :: st) g mi mr Q := tw_x_iload td_166_150 rfl
theorem td_166_152 : decode (tw_cd 166) 152 = .ok (.iload_n 3, 1) := by decide +kernel
theorem tz_166_152 : tw_E sc d 166 152 [x0, x1, x2, some (.int v), x4, x5, x6, x7] st g mi mr Q = tw_E sc d 166 153 [x0, x1, x2, some (.int v), x4, x5, x6, x7] (.int v :: st) g mi mr Q := tw_x_iload_n td_166_152 rfl
theorem td_166_153 : decode (tw_cd 166) 153 = .ok (.invokevirtual 228, 3) := by decide +kernel
theorem tz_166_153 {a0 : Int32} {a1 : Int32} {a2 : Int32} : tw_E sc (d + 1) 166 153 [x0, x1, x2, x3, x4, x5, x6, x7] ([.int a2, .int a1, .int a0, .ref a]) g mi mr Q = (tw_kd g a = 10 ∧ tw_E sc d 164 0 [some (.ref a), some (.int a0), some (.int a1), some (.int a2)] [] g mi mr (tw_K sc (d + 1) 166 156 [x0, x1, x2, x3, x4, x5, x6, x7] [] Q)) := tw_x_cv (as := [.int a0, .int a1, .int a2]) (r := []) td_166_153 to_166 tc_10_228 to_164 rfl rfl rfl rfl
theorem td_166_156 : decode (tw_cd 166) 156 = .ok (.iload 6, 2) := by decide +kernel
theorem tz_166_156 : tw_E sc d 166 156 [x0, x1, x2, x3, x4, x5, some (.int v), x7] st g mi mr Q = tw_E sc d 166 158 [x0, x1, x2, x3, x4, x5, some (.int v), x7] (.int v :: st) g mi mr Q := tw_x_iload td_166_156 rfl
theorem td_166_158 : decode (tw_cd 166) 158 = .ok (.ireturn, 1) := by decide +kernel
theorem tz_166_158 : tw_E sc d 166 158 [x0, x1, x2, x3, x4, x5, x6, x7] ([.int v]) g mi mr Q = Q (some (.int v)) g mi mr := tw_x_iret td_166_158 tr_166
end tz_166
-- 167: Mo_frames
section tz_167
variable {sc : Nat × (Nat → Int32)} {d : Nat} {x0 x1 x2 x3 x4 : Option Value} {st : List Value} {g : tw_G} {mi : tw_I} {mr : tw_Q} {Q : Option Value → tw_G → tw_I → tw_Q → Prop} {v w u : Int32} {a b : Nat} {j h : Int64} {s1 s2 s3 s4 : Value}
theorem td_167_0 : decode (tw_cd 167) 0 = .ok (.aload_n 0, 1) := by decide +kernel
theorem tz_167_0 : tw_E sc d 167 0 [some (.ref a), x1, x2, x3, x4] st g mi mr Q = tw_E sc d 167 1 [some (.ref a), x1, x2, x3, x4] (.ref a :: st) g mi mr Q := tw_x_aload_n td_167_0 rfl
theorem td_167_1 : decode (tw_cd 167) 1 = .ok (.iconst 0, 1) := by decide +kernel
theorem tz_167_1 : tw_E sc d 167 1 [x0, x1, x2, x3, x4] st g mi mr Q = tw_E sc d 167 2 [x0, x1, x2, x3, x4] (.int 0 :: st) g mi mr Q := tw_x_iconst td_167_1 (by decide)
theorem td_167_2 : decode (tw_cd 167) 2 = .ok (.putfield 83, 3) := by decide +kernel
theorem tz_167_2 : tw_E sc d 167 2 [x0, x1, x2, x3, x4] (.int v :: .ref a :: st) g mi mr Q = (tw_kd g a = 10 ∧ tw_E sc d 167 5 [x0, x1, x2, x3, x4] st g (tw_st mi a (tw_st (mi a) 0 v)) mr Q) := tw_x_puti td_167_2 to_167 tf_10_83 rfl rfl
theorem td_167_5 : decode (tw_cd 167) 5 = .ok (.iload_n 1, 1) := by decide +kernel
theorem tz_167_5 : tw_E sc d 167 5 [x0, some (.int v), x2, x3, x4] st g mi mr Q = tw_E sc d 167 6 [x0, some (.int v), x2, x3, x4] (.int v :: st) g mi mr Q := tw_x_iload_n td_167_5 rfl
theorem td_167_6 : decode (tw_cd 167) 6 = .ok (.i2l, 1) := by decide +kernel
theorem tz_167_6 : tw_E sc d 167 6 [x0, x1, x2, x3, x4] (.int v :: st) g mi mr Q = tw_E sc d 167 7 [x0, x1, x2, x3, x4] (.long v.toInt64 :: st) g mi mr Q := tw_x_i2l td_167_6
theorem td_167_7 : decode (tw_cd 167) 7 = .ok (.lconst 0, 1) := by decide +kernel
theorem tz_167_7 : tw_E sc d 167 7 [x0, x1, x2, x3, x4] st g mi mr Q = tw_E sc d 167 8 [x0, x1, x2, x3, x4] (.long 0 :: st) g mi mr Q := tw_x_lconst td_167_7 (by decide)
theorem td_167_8 : decode (tw_cd 167) 8 = .ok (.ldc2_w 232, 3) := by decide +kernel
theorem tz_167_8 : tw_E sc d 167 8 [x0, x1, x2, x3, x4] st g mi mr Q = tw_E sc d 167 11 [x0, x1, x2, x3, x4] (.long 15 :: st) g mi mr Q := tw_x_ldl td_167_8 to_167 tl_10_232
theorem td_167_11 : decode (tw_cd 167) 11 = .ok (.invokestatic 96, 3) := by decide +kernel
theorem tz_167_11 {a0 : Int64} {a1 : Int64} {a2 : Int64} : tw_E sc (d + 1) 167 11 [x0, x1, x2, x3, x4] ([.long a2, .long a1, .long a0]) g mi mr Q = tw_E sc d 126 0 [some (.long a0), none, some (.long a1), none, some (.long a2), none] [] g mi mr (tw_K sc (d + 1) 167 14 [x0, x1, x2, x3, x4] [] Q) := tw_x_cs (as := [.long a0, .long a1, .long a2]) (r := []) td_167_11 to_167 tmn_10_96 tc_10_96 rfl rfl rfl rfl rfl
theorem td_167_14 : decode (tw_cd 167) 14 = .ok (.ifCond .ne 5, 3) := by decide +kernel
theorem tz_167_14 : tw_E sc d 167 14 [x0, x1, x2, x3, x4] (.int v :: st) g mi mr Q = if ¬ v = 0 then tw_E sc d 167 19 [x0, x1, x2, x3, x4] st g mi mr Q else tw_E sc d 167 17 [x0, x1, x2, x3, x4] st g mi mr Q := tw_x_if_ne td_167_14 (by decide)
theorem td_167_17 : decode (tw_cd 167) 17 = .ok (.iconst (-1), 1) := by decide +kernel
theorem tz_167_17 : tw_E sc d 167 17 [x0, x1, x2, x3, x4] st g mi mr Q = tw_E sc d 167 18 [x0, x1, x2, x3, x4] (.int (-1) :: st) g mi mr Q := tw_x_iconst td_167_17 (by decide)
theorem td_167_18 : decode (tw_cd 167) 18 = .ok (.ireturn, 1) := by decide +kernel
theorem tz_167_18 : tw_E sc d 167 18 [x0, x1, x2, x3, x4] ([.int v]) g mi mr Q = Q (some (.int v)) g mi mr := tw_x_iret td_167_18 tr_167
theorem td_167_19 : decode (tw_cd 167) 19 = .ok (.iload_n 2, 1) := by decide +kernel
theorem tz_167_19 : tw_E sc d 167 19 [x0, x1, some (.int v), x3, x4] st g mi mr Q = tw_E sc d 167 20 [x0, x1, some (.int v), x3, x4] (.int v :: st) g mi mr Q := tw_x_iload_n td_167_19 rfl
theorem td_167_20 : decode (tw_cd 167) 20 = .ok (.i2l, 1) := by decide +kernel
theorem tz_167_20 : tw_E sc d 167 20 [x0, x1, x2, x3, x4] (.int v :: st) g mi mr Q = tw_E sc d 167 21 [x0, x1, x2, x3, x4] (.long v.toInt64 :: st) g mi mr Q := tw_x_i2l td_167_20
theorem td_167_21 : decode (tw_cd 167) 21 = .ok (.lconst 1, 1) := by decide +kernel
theorem tz_167_21 : tw_E sc d 167 21 [x0, x1, x2, x3, x4] st g mi mr Q = tw_E sc d 167 22 [x0, x1, x2, x3, x4] (.long 1 :: st) g mi mr Q := tw_x_lconst td_167_21 (by decide)
theorem td_167_22 : decode (tw_cd 167) 22 = .ok (.ldc2_w 234, 3) := by decide +kernel
theorem tz_167_22 : tw_E sc d 167 22 [x0, x1, x2, x3, x4] st g mi mr Q = tw_E sc d 167 25 [x0, x1, x2, x3, x4] (.long 20 :: st) g mi mr Q := tw_x_ldl td_167_22 to_167 tl_10_234
theorem td_167_25 : decode (tw_cd 167) 25 = .ok (.invokestatic 96, 3) := by decide +kernel
theorem tz_167_25 {a0 : Int64} {a1 : Int64} {a2 : Int64} : tw_E sc (d + 1) 167 25 [x0, x1, x2, x3, x4] ([.long a2, .long a1, .long a0]) g mi mr Q = tw_E sc d 126 0 [some (.long a0), none, some (.long a1), none, some (.long a2), none] [] g mi mr (tw_K sc (d + 1) 167 28 [x0, x1, x2, x3, x4] [] Q) := tw_x_cs (as := [.long a0, .long a1, .long a2]) (r := []) td_167_25 to_167 tmn_10_96 tc_10_96 rfl rfl rfl rfl rfl
theorem td_167_28 : decode (tw_cd 167) 28 = .ok (.ifCond .ne 6, 3) := by decide +kernel
theorem tz_167_28 : tw_E sc d 167 28 [x0, x1, x2, x3, x4] (.int v :: st) g mi mr Q = if ¬ v = 0 then tw_E sc d 167 34 [x0, x1, x2, x3, x4] st g mi mr Q else tw_E sc d 167 31 [x0, x1, x2, x3, x4] st g mi mr Q := tw_x_if_ne td_167_28 (by decide)
theorem td_167_31 : decode (tw_cd 167) 31 = .ok (.bipush (-2), 2) := by decide +kernel
theorem tz_167_31 : tw_E sc d 167 31 [x0, x1, x2, x3, x4] st g mi mr Q = tw_E sc d 167 33 [x0, x1, x2, x3, x4] (.int (-2) :: st) g mi mr Q := tw_x_bipush td_167_31 (by decide)
theorem td_167_33 : decode (tw_cd 167) 33 = .ok (.ireturn, 1) := by decide +kernel
theorem tz_167_33 : tw_E sc d 167 33 [x0, x1, x2, x3, x4] ([.int v]) g mi mr Q = Q (some (.int v)) g mi mr := tw_x_iret td_167_33 tr_167
theorem td_167_34 : decode (tw_cd 167) 34 = .ok (.aload_n 0, 1) := by decide +kernel
theorem tz_167_34 : tw_E sc d 167 34 [some (.ref a), x1, x2, x3, x4] st g mi mr Q = tw_E sc d 167 35 [some (.ref a), x1, x2, x3, x4] (.ref a :: st) g mi mr Q := tw_x_aload_n td_167_34 rfl
theorem td_167_35 : decode (tw_cd 167) 35 = .ok (.iconst 0, 1) := by decide +kernel
theorem tz_167_35 : tw_E sc d 167 35 [x0, x1, x2, x3, x4] st g mi mr Q = tw_E sc d 167 36 [x0, x1, x2, x3, x4] (.int 0 :: st) g mi mr Q := tw_x_iconst td_167_35 (by decide)
theorem td_167_36 : decode (tw_cd 167) 36 = .ok (.putfield 225, 3) := by decide +kernel
theorem tz_167_36 : tw_E sc d 167 36 [x0, x1, x2, x3, x4] (.int v :: .ref a :: st) g mi mr Q = (tw_kd g a = 10 ∧ tw_E sc d 167 39 [x0, x1, x2, x3, x4] st g (tw_st mi a (tw_st (mi a) 25 v)) mr Q) := tw_x_puti td_167_36 to_167 tf_10_225 rfl rfl
theorem td_167_39 : decode (tw_cd 167) 39 = .ok (.iconst 0, 1) := by decide +kernel
theorem tz_167_39 : tw_E sc d 167 39 [x0, x1, x2, x3, x4] st g mi mr Q = tw_E sc d 167 40 [x0, x1, x2, x3, x4] (.int 0 :: st) g mi mr Q := tw_x_iconst td_167_39 (by decide)
theorem td_167_40 : decode (tw_cd 167) 40 = .ok (.istore_n 3, 1) := by decide +kernel
theorem tz_167_40 : tw_E sc d 167 40 [x0, x1, x2, x3, x4] (.int v :: st) g mi mr Q = tw_E sc d 167 41 [x0, x1, x2, some (.int v), x4] st g mi mr Q := tw_x_istore_n td_167_40 tp_167 rfl
theorem td_167_41 : decode (tw_cd 167) 41 = .ok (.iload_n 3, 1) := by decide +kernel
theorem tz_167_41 : tw_E sc d 167 41 [x0, x1, x2, some (.int v), x4] st g mi mr Q = tw_E sc d 167 42 [x0, x1, x2, some (.int v), x4] (.int v :: st) g mi mr Q := tw_x_iload_n td_167_41 rfl
theorem td_167_42 : decode (tw_cd 167) 42 = .ok (.aload_n 0, 1) := by decide +kernel
theorem tz_167_42 : tw_E sc d 167 42 [some (.ref a), x1, x2, x3, x4] st g mi mr Q = tw_E sc d 167 43 [some (.ref a), x1, x2, x3, x4] (.ref a :: st) g mi mr Q := tw_x_aload_n td_167_42 rfl
theorem td_167_43 : decode (tw_cd 167) 43 = .ok (.getfield 185, 3) := by decide +kernel
theorem tz_167_43 : tw_E sc d 167 43 [x0, x1, x2, x3, x4] (.ref a :: st) g mi mr Q = (tw_kd g a = 10 ∧ tw_E sc d 167 46 [x0, x1, x2, x3, x4] (.int (mi a 20) :: st) g mi mr Q) := tw_x_geti td_167_43 to_167 tf_10_185 (trf_10_20)
theorem td_167_46 : decode (tw_cd 167) 46 = .ok (.if_icmp .ge 59, 3) := by decide +kernel
theorem tz_167_46 : tw_E sc d 167 46 [x0, x1, x2, x3, x4] (.int w :: .int v :: st) g mi mr Q = if w ≤ v then tw_E sc d 167 105 [x0, x1, x2, x3, x4] st g mi mr Q else tw_E sc d 167 49 [x0, x1, x2, x3, x4] st g mi mr Q := tw_x_ic_ge td_167_46 (by decide)
theorem td_167_49 : decode (tw_cd 167) 49 = .ok (.aload_n 0, 1) := by decide +kernel
theorem tz_167_49 : tw_E sc d 167 49 [some (.ref a), x1, x2, x3, x4] st g mi mr Q = tw_E sc d 167 50 [some (.ref a), x1, x2, x3, x4] (.ref a :: st) g mi mr Q := tw_x_aload_n td_167_49 rfl
theorem td_167_50 : decode (tw_cd 167) 50 = .ok (.getfield 225, 3) := by decide +kernel
theorem tz_167_50 : tw_E sc d 167 50 [x0, x1, x2, x3, x4] (.ref a :: st) g mi mr Q = (tw_kd g a = 10 ∧ tw_E sc d 167 53 [x0, x1, x2, x3, x4] (.int (mi a 25) :: st) g mi mr Q) := tw_x_geti td_167_50 to_167 tf_10_225 (trf_10_25)
theorem td_167_53 : decode (tw_cd 167) 53 = .ok (.sipush 400, 3) := by decide +kernel
theorem tz_167_53 : tw_E sc d 167 53 [x0, x1, x2, x3, x4] st g mi mr Q = tw_E sc d 167 56 [x0, x1, x2, x3, x4] (.int 400 :: st) g mi mr Q := tw_x_sipush td_167_53 (by decide)
theorem td_167_56 : decode (tw_cd 167) 56 = .ok (.if_icmp .ge 49, 3) := by decide +kernel
theorem tz_167_56 : tw_E sc d 167 56 [x0, x1, x2, x3, x4] (.int w :: .int v :: st) g mi mr Q = if w ≤ v then tw_E sc d 167 105 [x0, x1, x2, x3, x4] st g mi mr Q else tw_E sc d 167 59 [x0, x1, x2, x3, x4] st g mi mr Q := tw_x_ic_ge td_167_56 (by decide)
theorem td_167_59 : decode (tw_cd 167) 59 = .ok (.aload_n 0, 1) := by decide +kernel
theorem tz_167_59 : tw_E sc d 167 59 [some (.ref a), x1, x2, x3, x4] st g mi mr Q = tw_E sc d 167 60 [some (.ref a), x1, x2, x3, x4] (.ref a :: st) g mi mr Q := tw_x_aload_n td_167_59 rfl
theorem td_167_60 : decode (tw_cd 167) 60 = .ok (.iload_n 1, 1) := by decide +kernel
theorem tz_167_60 : tw_E sc d 167 60 [x0, some (.int v), x2, x3, x4] st g mi mr Q = tw_E sc d 167 61 [x0, some (.int v), x2, x3, x4] (.int v :: st) g mi mr Q := tw_x_iload_n td_167_60 rfl
theorem td_167_61 : decode (tw_cd 167) 61 = .ok (.iload_n 3, 1) := by decide +kernel
theorem tz_167_61 : tw_E sc d 167 61 [x0, x1, x2, some (.int v), x4] st g mi mr Q = tw_E sc d 167 62 [x0, x1, x2, some (.int v), x4] (.int v :: st) g mi mr Q := tw_x_iload_n td_167_61 rfl
theorem td_167_62 : decode (tw_cd 167) 62 = .ok (.invokevirtual 236, 3) := by decide +kernel
theorem tz_167_62 {a0 : Int32} {a1 : Int32} : tw_E sc (d + 1) 167 62 [x0, x1, x2, x3, x4] ([.int a1, .int a0, .ref a]) g mi mr Q = (tw_kd g a = 10 ∧ tw_E sc d 165 0 [some (.ref a), some (.int a0), some (.int a1)] [] g mi mr (tw_K sc (d + 1) 167 65 [x0, x1, x2, x3, x4] [] Q)) := tw_x_cv (as := [.int a0, .int a1]) (r := []) td_167_62 to_167 tc_10_236 to_165 rfl rfl rfl rfl
theorem td_167_65 : decode (tw_cd 167) 65 = .ok (.ifCond .eq 34, 3) := by decide +kernel
theorem tz_167_65 : tw_E sc d 167 65 [x0, x1, x2, x3, x4] (.int v :: st) g mi mr Q = if v = 0 then tw_E sc d 167 99 [x0, x1, x2, x3, x4] st g mi mr Q else tw_E sc d 167 68 [x0, x1, x2, x3, x4] st g mi mr Q := tw_x_if_eq td_167_65 (by decide)
theorem td_167_68 : decode (tw_cd 167) 68 = .ok (.aload_n 0, 1) := by decide +kernel
theorem tz_167_68 : tw_E sc d 167 68 [some (.ref a), x1, x2, x3, x4] st g mi mr Q = tw_E sc d 167 69 [some (.ref a), x1, x2, x3, x4] (.ref a :: st) g mi mr Q := tw_x_aload_n td_167_68 rfl
theorem td_167_69 : decode (tw_cd 167) 69 = .ok (.iload_n 1, 1) := by decide +kernel
theorem tz_167_69 : tw_E sc d 167 69 [x0, some (.int v), x2, x3, x4] st g mi mr Q = tw_E sc d 167 70 [x0, some (.int v), x2, x3, x4] (.int v :: st) g mi mr Q := tw_x_iload_n td_167_69 rfl
theorem td_167_70 : decode (tw_cd 167) 70 = .ok (.iload_n 2, 1) := by decide +kernel
theorem tz_167_70 : tw_E sc d 167 70 [x0, x1, some (.int v), x3, x4] st g mi mr Q = tw_E sc d 167 71 [x0, x1, some (.int v), x3, x4] (.int v :: st) g mi mr Q := tw_x_iload_n td_167_70 rfl
theorem td_167_71 : decode (tw_cd 167) 71 = .ok (.iload_n 3, 1) := by decide +kernel
theorem tz_167_71 : tw_E sc d 167 71 [x0, x1, x2, some (.int v), x4] st g mi mr Q = tw_E sc d 167 72 [x0, x1, x2, some (.int v), x4] (.int v :: st) g mi mr Q := tw_x_iload_n td_167_71 rfl
theorem td_167_72 : decode (tw_cd 167) 72 = .ok (.invokevirtual 239, 3) := by decide +kernel
theorem tz_167_72 {a0 : Int32} {a1 : Int32} {a2 : Int32} : tw_E sc (d + 1) 167 72 [x0, x1, x2, x3, x4] ([.int a2, .int a1, .int a0, .ref a]) g mi mr Q = (tw_kd g a = 10 ∧ tw_E sc d 166 0 [some (.ref a), some (.int a0), some (.int a1), some (.int a2), none, none, none, none] [] g mi mr (tw_K sc (d + 1) 167 75 [x0, x1, x2, x3, x4] [] Q)) := tw_x_cv (as := [.int a0, .int a1, .int a2]) (r := []) td_167_72 to_167 tc_10_239 to_166 rfl rfl rfl rfl
theorem td_167_75 : decode (tw_cd 167) 75 = .ok (.istore 4, 2) := by decide +kernel
theorem tz_167_75 : tw_E sc d 167 75 [x0, x1, x2, x3, x4] (.int v :: st) g mi mr Q = tw_E sc d 167 77 [x0, x1, x2, x3, some (.int v)] st g mi mr Q := tw_x_istore td_167_75 tp_167 rfl
theorem td_167_77 : decode (tw_cd 167) 77 = .ok (.iload 4, 2) := by decide +kernel
theorem tz_167_77 : tw_E sc d 167 77 [x0, x1, x2, x3, some (.int v)] st g mi mr Q = tw_E sc d 167 79 [x0, x1, x2, x3, some (.int v)] (.int v :: st) g mi mr Q := tw_x_iload td_167_77 rfl
theorem td_167_79 : decode (tw_cd 167) 79 = .ok (.bipush (-9), 2) := by decide +kernel
theorem tz_167_79 : tw_E sc d 167 79 [x0, x1, x2, x3, x4] st g mi mr Q = tw_E sc d 167 81 [x0, x1, x2, x3, x4] (.int (-9) :: st) g mi mr Q := tw_x_bipush td_167_79 (by decide)
theorem td_167_81 : decode (tw_cd 167) 81 = .ok (.if_icmp .ne 10, 3) := by decide +kernel
theorem tz_167_81 : tw_E sc d 167 81 [x0, x1, x2, x3, x4] (.int w :: .int v :: st) g mi mr Q = if ¬ v = w then tw_E sc d 167 91 [x0, x1, x2, x3, x4] st g mi mr Q else tw_E sc d 167 84 [x0, x1, x2, x3, x4] st g mi mr Q := tw_x_ic_ne td_167_81 (by decide)
theorem td_167_84 : decode (tw_cd 167) 84 = .ok (.aload_n 0, 1) := by decide +kernel
theorem tz_167_84 : tw_E sc d 167 84 [some (.ref a), x1, x2, x3, x4] st g mi mr Q = tw_E sc d 167 85 [some (.ref a), x1, x2, x3, x4] (.ref a :: st) g mi mr Q := tw_x_aload_n td_167_84 rfl
theorem td_167_85 : decode (tw_cd 167) 85 = .ok (.getfield 185, 3) := by decide +kernel
theorem tz_167_85 : tw_E sc d 167 85 [x0, x1, x2, x3, x4] (.ref a :: st) g mi mr Q = (tw_kd g a = 10 ∧ tw_E sc d 167 88 [x0, x1, x2, x3, x4] (.int (mi a 20) :: st) g mi mr Q) := tw_x_geti td_167_85 to_167 tf_10_185 (trf_10_20)
theorem td_167_88 : decode (tw_cd 167) 88 = .ok (.goto 7, 3) := by decide +kernel
theorem tz_167_88 : tw_E sc d 167 88 [x0, x1, x2, x3, x4] st g mi mr Q = tw_E sc d 167 95 [x0, x1, x2, x3, x4] st g mi mr Q := tw_x_goto td_167_88 (by decide)
theorem td_167_91 : decode (tw_cd 167) 91 = .ok (.iload 4, 2) := by decide +kernel
theorem tz_167_91 : tw_E sc d 167 91 [x0, x1, x2, x3, some (.int v)] st g mi mr Q = tw_E sc d 167 93 [x0, x1, x2, x3, some (.int v)] (.int v :: st) g mi mr Q := tw_x_iload td_167_91 rfl
theorem td_167_93 : decode (tw_cd 167) 93 = .ok (.iconst 1, 1) := by decide +kernel
theorem tz_167_93 : tw_E sc d 167 93 [x0, x1, x2, x3, x4] st g mi mr Q = tw_E sc d 167 94 [x0, x1, x2, x3, x4] (.int 1 :: st) g mi mr Q := tw_x_iconst td_167_93 (by decide)
theorem td_167_94 : decode (tw_cd 167) 94 = .ok (.iadd, 1) := by decide +kernel
theorem tz_167_94 : tw_E sc d 167 94 [x0, x1, x2, x3, x4] (.int w :: .int v :: st) g mi mr Q = tw_E sc d 167 95 [x0, x1, x2, x3, x4] (.int (v + w) :: st) g mi mr Q := tw_x_iadd td_167_94
theorem td_167_95 : decode (tw_cd 167) 95 = .ok (.istore_n 3, 1) := by decide +kernel
theorem tz_167_95 : tw_E sc d 167 95 [x0, x1, x2, x3, x4] (.int v :: st) g mi mr Q = tw_E sc d 167 96 [x0, x1, x2, some (.int v), x4] st g mi mr Q := tw_x_istore_n td_167_95 tp_167 rfl
theorem td_167_96 : decode (tw_cd 167) 96 = .ok (.goto (-55), 3) := by decide +kernel
theorem tz_167_96 : tw_E sc d 167 96 [x0, x1, x2, x3, x4] st g mi mr Q = tw_E sc d 167 41 [x0, x1, x2, x3, x4] st g mi mr Q := tw_x_goto td_167_96 (by decide)
theorem td_167_99 : decode (tw_cd 167) 99 = .ok (.iinc 3 1, 3) := by decide +kernel
theorem tz_167_99 : tw_E sc d 167 99 [x0, x1, x2, some (.int v), x4] st g mi mr Q = tw_E sc d 167 102 [x0, x1, x2, some (.int (v + 1)), x4] st g mi mr Q := tw_x_iinc td_167_99 rfl (by first | rfl | (exact congrArg (v + ·) (by decide))) tp_167 rfl
theorem td_167_102 : decode (tw_cd 167) 102 = .ok (.goto (-61), 3) := by decide +kernel
theorem tz_167_102 : tw_E sc d 167 102 [x0, x1, x2, x3, x4] st g mi mr Q = tw_E sc d 167 41 [x0, x1, x2, x3, x4] st g mi mr Q := tw_x_goto td_167_102 (by decide)
theorem td_167_105 : decode (tw_cd 167) 105 = .ok (.aload_n 0, 1) := by decide +kernel
theorem tz_167_105 : tw_E sc d 167 105 [some (.ref a), x1, x2, x3, x4] st g mi mr Q = tw_E sc d 167 106 [some (.ref a), x1, x2, x3, x4] (.ref a :: st) g mi mr Q := tw_x_aload_n td_167_105 rfl
theorem td_167_106 : decode (tw_cd 167) 106 = .ok (.getfield 225, 3) := by decide +kernel
theorem tz_167_106 : tw_E sc d 167 106 [x0, x1, x2, x3, x4] (.ref a :: st) g mi mr Q = (tw_kd g a = 10 ∧ tw_E sc d 167 109 [x0, x1, x2, x3, x4] (.int (mi a 25) :: st) g mi mr Q) := tw_x_geti td_167_106 to_167 tf_10_225 (trf_10_25)
theorem td_167_109 : decode (tw_cd 167) 109 = .ok (.ireturn, 1) := by decide +kernel
theorem tz_167_109 : tw_E sc d 167 109 [x0, x1, x2, x3, x4] ([.int v]) g mi mr Q = Q (some (.int v)) g mi mr := tw_x_iret td_167_109 tr_167
end tz_167
-- 168: Mo_bytes
section tz_168
variable {sc : Nat × (Nat → Int32)} {d : Nat} {x0 x1 x2 x3 x4 x5 x6 x7 x8 x9 x10 x11 : Option Value} {st : List Value} {g : tw_G} {mi : tw_I} {mr : tw_Q} {Q : Option Value → tw_G → tw_I → tw_Q → Prop} {v w u : Int32} {a b : Nat} {j h : Int64} {s1 s2 s3 s4 : Value}
theorem td_168_0 : decode (tw_cd 168) 0 = .ok (.aload_n 0, 1) := by decide +kernel
theorem tz_168_0 : tw_E sc d 168 0 [some (.ref a), x1, x2, x3, x4, x5, x6, x7, x8, x9, x10, x11] st g mi mr Q = tw_E sc d 168 1 [some (.ref a), x1, x2, x3, x4, x5, x6, x7, x8, x9, x10, x11] (.ref a :: st) g mi mr Q := tw_x_aload_n td_168_0 rfl
theorem td_168_1 : decode (tw_cd 168) 1 = .ok (.iconst 0, 1) := by decide +kernel
theorem tz_168_1 : tw_E sc d 168 1 [x0, x1, x2, x3, x4, x5, x6, x7, x8, x9, x10, x11] st g mi mr Q = tw_E sc d 168 2 [x0, x1, x2, x3, x4, x5, x6, x7, x8, x9, x10, x11] (.int 0 :: st) g mi mr Q := tw_x_iconst td_168_1 (by decide)
theorem td_168_2 : decode (tw_cd 168) 2 = .ok (.putfield 83, 3) := by decide +kernel
theorem tz_168_2 : tw_E sc d 168 2 [x0, x1, x2, x3, x4, x5, x6, x7, x8, x9, x10, x11] (.int v :: .ref a :: st) g mi mr Q = (tw_kd g a = 10 ∧ tw_E sc d 168 5 [x0, x1, x2, x3, x4, x5, x6, x7, x8, x9, x10, x11] st g (tw_st mi a (tw_st (mi a) 0 v)) mr Q) := tw_x_puti td_168_2 to_168 tf_10_83 rfl rfl
theorem td_168_5 : decode (tw_cd 168) 5 = .ok (.iload_n 1, 1) := by decide +kernel
theorem tz_168_5 : tw_E sc d 168 5 [x0, some (.int v), x2, x3, x4, x5, x6, x7, x8, x9, x10, x11] st g mi mr Q = tw_E sc d 168 6 [x0, some (.int v), x2, x3, x4, x5, x6, x7, x8, x9, x10, x11] (.int v :: st) g mi mr Q := tw_x_iload_n td_168_5 rfl
theorem td_168_6 : decode (tw_cd 168) 6 = .ok (.i2l, 1) := by decide +kernel
theorem tz_168_6 : tw_E sc d 168 6 [x0, x1, x2, x3, x4, x5, x6, x7, x8, x9, x10, x11] (.int v :: st) g mi mr Q = tw_E sc d 168 7 [x0, x1, x2, x3, x4, x5, x6, x7, x8, x9, x10, x11] (.long v.toInt64 :: st) g mi mr Q := tw_x_i2l td_168_6
theorem td_168_7 : decode (tw_cd 168) 7 = .ok (.lconst 0, 1) := by decide +kernel
theorem tz_168_7 : tw_E sc d 168 7 [x0, x1, x2, x3, x4, x5, x6, x7, x8, x9, x10, x11] st g mi mr Q = tw_E sc d 168 8 [x0, x1, x2, x3, x4, x5, x6, x7, x8, x9, x10, x11] (.long 0 :: st) g mi mr Q := tw_x_lconst td_168_7 (by decide)
theorem td_168_8 : decode (tw_cd 168) 8 = .ok (.ldc2_w 232, 3) := by decide +kernel
theorem tz_168_8 : tw_E sc d 168 8 [x0, x1, x2, x3, x4, x5, x6, x7, x8, x9, x10, x11] st g mi mr Q = tw_E sc d 168 11 [x0, x1, x2, x3, x4, x5, x6, x7, x8, x9, x10, x11] (.long 15 :: st) g mi mr Q := tw_x_ldl td_168_8 to_168 tl_10_232
theorem td_168_11 : decode (tw_cd 168) 11 = .ok (.invokestatic 96, 3) := by decide +kernel
theorem tz_168_11 {a0 : Int64} {a1 : Int64} {a2 : Int64} : tw_E sc (d + 1) 168 11 [x0, x1, x2, x3, x4, x5, x6, x7, x8, x9, x10, x11] ([.long a2, .long a1, .long a0]) g mi mr Q = tw_E sc d 126 0 [some (.long a0), none, some (.long a1), none, some (.long a2), none] [] g mi mr (tw_K sc (d + 1) 168 14 [x0, x1, x2, x3, x4, x5, x6, x7, x8, x9, x10, x11] [] Q) := tw_x_cs (as := [.long a0, .long a1, .long a2]) (r := []) td_168_11 to_168 tmn_10_96 tc_10_96 rfl rfl rfl rfl rfl
theorem td_168_14 : decode (tw_cd 168) 14 = .ok (.ifCond .eq 15, 3) := by decide +kernel
theorem tz_168_14 : tw_E sc d 168 14 [x0, x1, x2, x3, x4, x5, x6, x7, x8, x9, x10, x11] (.int v :: st) g mi mr Q = if v = 0 then tw_E sc d 168 29 [x0, x1, x2, x3, x4, x5, x6, x7, x8, x9, x10, x11] st g mi mr Q else tw_E sc d 168 17 [x0, x1, x2, x3, x4, x5, x6, x7, x8, x9, x10, x11] st g mi mr Q := tw_x_if_eq td_168_14 (by decide)
theorem td_168_17 : decode (tw_cd 168) 17 = .ok (.iload_n 2, 1) := by decide +kernel
theorem tz_168_17 : tw_E sc d 168 17 [x0, x1, some (.int v), x3, x4, x5, x6, x7, x8, x9, x10, x11] st g mi mr Q = tw_E sc d 168 18 [x0, x1, some (.int v), x3, x4, x5, x6, x7, x8, x9, x10, x11] (.int v :: st) g mi mr Q := tw_x_iload_n td_168_17 rfl
theorem td_168_18 : decode (tw_cd 168) 18 = .ok (.i2l, 1) := by decide +kernel
theorem tz_168_18 : tw_E sc d 168 18 [x0, x1, x2, x3, x4, x5, x6, x7, x8, x9, x10, x11] (.int v :: st) g mi mr Q = tw_E sc d 168 19 [x0, x1, x2, x3, x4, x5, x6, x7, x8, x9, x10, x11] (.long v.toInt64 :: st) g mi mr Q := tw_x_i2l td_168_18
theorem td_168_19 : decode (tw_cd 168) 19 = .ok (.lconst 0, 1) := by decide +kernel
theorem tz_168_19 : tw_E sc d 168 19 [x0, x1, x2, x3, x4, x5, x6, x7, x8, x9, x10, x11] st g mi mr Q = tw_E sc d 168 20 [x0, x1, x2, x3, x4, x5, x6, x7, x8, x9, x10, x11] (.long 0 :: st) g mi mr Q := tw_x_lconst td_168_19 (by decide)
theorem td_168_20 : decode (tw_cd 168) 20 = .ok (.ldc2_w 232, 3) := by decide +kernel
theorem tz_168_20 : tw_E sc d 168 20 [x0, x1, x2, x3, x4, x5, x6, x7, x8, x9, x10, x11] st g mi mr Q = tw_E sc d 168 23 [x0, x1, x2, x3, x4, x5, x6, x7, x8, x9, x10, x11] (.long 15 :: st) g mi mr Q := tw_x_ldl td_168_20 to_168 tl_10_232
theorem td_168_23 : decode (tw_cd 168) 23 = .ok (.invokestatic 96, 3) := by decide +kernel
theorem tz_168_23 {a0 : Int64} {a1 : Int64} {a2 : Int64} : tw_E sc (d + 1) 168 23 [x0, x1, x2, x3, x4, x5, x6, x7, x8, x9, x10, x11] ([.long a2, .long a1, .long a0]) g mi mr Q = tw_E sc d 126 0 [some (.long a0), none, some (.long a1), none, some (.long a2), none] [] g mi mr (tw_K sc (d + 1) 168 26 [x0, x1, x2, x3, x4, x5, x6, x7, x8, x9, x10, x11] [] Q) := tw_x_cs (as := [.long a0, .long a1, .long a2]) (r := []) td_168_23 to_168 tmn_10_96 tc_10_96 rfl rfl rfl rfl rfl
theorem td_168_26 : decode (tw_cd 168) 26 = .ok (.ifCond .ne 5, 3) := by decide +kernel
theorem tz_168_26 : tw_E sc d 168 26 [x0, x1, x2, x3, x4, x5, x6, x7, x8, x9, x10, x11] (.int v :: st) g mi mr Q = if ¬ v = 0 then tw_E sc d 168 31 [x0, x1, x2, x3, x4, x5, x6, x7, x8, x9, x10, x11] st g mi mr Q else tw_E sc d 168 29 [x0, x1, x2, x3, x4, x5, x6, x7, x8, x9, x10, x11] st g mi mr Q := tw_x_if_ne td_168_26 (by decide)
theorem td_168_29 : decode (tw_cd 168) 29 = .ok (.iconst (-1), 1) := by decide +kernel
theorem tz_168_29 : tw_E sc d 168 29 [x0, x1, x2, x3, x4, x5, x6, x7, x8, x9, x10, x11] st g mi mr Q = tw_E sc d 168 30 [x0, x1, x2, x3, x4, x5, x6, x7, x8, x9, x10, x11] (.int (-1) :: st) g mi mr Q := tw_x_iconst td_168_29 (by decide)
theorem td_168_30 : decode (tw_cd 168) 30 = .ok (.ireturn, 1) := by decide +kernel
theorem tz_168_30 : tw_E sc d 168 30 [x0, x1, x2, x3, x4, x5, x6, x7, x8, x9, x10, x11] ([.int v]) g mi mr Q = Q (some (.int v)) g mi mr := tw_x_iret td_168_30 tr_168
theorem td_168_31 : decode (tw_cd 168) 31 = .ok (.iload_n 1, 1) := by decide +kernel
theorem tz_168_31 : tw_E sc d 168 31 [x0, some (.int v), x2, x3, x4, x5, x6, x7, x8, x9, x10, x11] st g mi mr Q = tw_E sc d 168 32 [x0, some (.int v), x2, x3, x4, x5, x6, x7, x8, x9, x10, x11] (.int v :: st) g mi mr Q := tw_x_iload_n td_168_31 rfl
theorem td_168_32 : decode (tw_cd 168) 32 = .ok (.iload_n 2, 1) := by decide +kernel
theorem tz_168_32 : tw_E sc d 168 32 [x0, x1, some (.int v), x3, x4, x5, x6, x7, x8, x9, x10, x11] st g mi mr Q = tw_E sc d 168 33 [x0, x1, some (.int v), x3, x4, x5, x6, x7, x8, x9, x10, x11] (.int v :: st) g mi mr Q := tw_x_iload_n td_168_32 rfl
theorem td_168_33 : decode (tw_cd 168) 33 = .ok (.if_icmp .ne 6, 3) := by decide +kernel
theorem tz_168_33 : tw_E sc d 168 33 [x0, x1, x2, x3, x4, x5, x6, x7, x8, x9, x10, x11] (.int w :: .int v :: st) g mi mr Q = if ¬ v = w then tw_E sc d 168 39 [x0, x1, x2, x3, x4, x5, x6, x7, x8, x9, x10, x11] st g mi mr Q else tw_E sc d 168 36 [x0, x1, x2, x3, x4, x5, x6, x7, x8, x9, x10, x11] st g mi mr Q := tw_x_ic_ne td_168_33 (by decide)
theorem td_168_36 : decode (tw_cd 168) 36 = .ok (.bipush (-2), 2) := by decide +kernel
theorem tz_168_36 : tw_E sc d 168 36 [x0, x1, x2, x3, x4, x5, x6, x7, x8, x9, x10, x11] st g mi mr Q = tw_E sc d 168 38 [x0, x1, x2, x3, x4, x5, x6, x7, x8, x9, x10, x11] (.int (-2) :: st) g mi mr Q := tw_x_bipush td_168_36 (by decide)
theorem td_168_38 : decode (tw_cd 168) 38 = .ok (.ireturn, 1) := by decide +kernel
theorem tz_168_38 : tw_E sc d 168 38 [x0, x1, x2, x3, x4, x5, x6, x7, x8, x9, x10, x11] ([.int v]) g mi mr Q = Q (some (.int v)) g mi mr := tw_x_iret td_168_38 tr_168
theorem td_168_39 : decode (tw_cd 168) 39 = .ok (.aload_n 0, 1) := by decide +kernel
theorem tz_168_39 : tw_E sc d 168 39 [some (.ref a), x1, x2, x3, x4, x5, x6, x7, x8, x9, x10, x11] st g mi mr Q = tw_E sc d 168 40 [some (.ref a), x1, x2, x3, x4, x5, x6, x7, x8, x9, x10, x11] (.ref a :: st) g mi mr Q := tw_x_aload_n td_168_39 rfl
theorem td_168_40 : decode (tw_cd 168) 40 = .ok (.iconst 0, 1) := by decide +kernel
theorem tz_168_40 : tw_E sc d 168 40 [x0, x1, x2, x3, x4, x5, x6, x7, x8, x9, x10, x11] st g mi mr Q = tw_E sc d 168 41 [x0, x1, x2, x3, x4, x5, x6, x7, x8, x9, x10, x11] (.int 0 :: st) g mi mr Q := tw_x_iconst td_168_40 (by decide)
theorem td_168_41 : decode (tw_cd 168) 41 = .ok (.putfield 225, 3) := by decide +kernel
theorem tz_168_41 : tw_E sc d 168 41 [x0, x1, x2, x3, x4, x5, x6, x7, x8, x9, x10, x11] (.int v :: .ref a :: st) g mi mr Q = (tw_kd g a = 10 ∧ tw_E sc d 168 44 [x0, x1, x2, x3, x4, x5, x6, x7, x8, x9, x10, x11] st g (tw_st mi a (tw_st (mi a) 25 v)) mr Q) := tw_x_puti td_168_41 to_168 tf_10_225 rfl rfl
theorem td_168_44 : decode (tw_cd 168) 44 = .ok (.iconst 0, 1) := by decide +kernel
theorem tz_168_44 : tw_E sc d 168 44 [x0, x1, x2, x3, x4, x5, x6, x7, x8, x9, x10, x11] st g mi mr Q = tw_E sc d 168 45 [x0, x1, x2, x3, x4, x5, x6, x7, x8, x9, x10, x11] (.int 0 :: st) g mi mr Q := tw_x_iconst td_168_44 (by decide)
theorem td_168_45 : decode (tw_cd 168) 45 = .ok (.istore_n 3, 1) := by decide +kernel
theorem tz_168_45 : tw_E sc d 168 45 [x0, x1, x2, x3, x4, x5, x6, x7, x8, x9, x10, x11] (.int v :: st) g mi mr Q = tw_E sc d 168 46 [x0, x1, x2, some (.int v), x4, x5, x6, x7, x8, x9, x10, x11] st g mi mr Q := tw_x_istore_n td_168_45 tp_168 rfl
theorem td_168_46 : decode (tw_cd 168) 46 = .ok (.iconst 0, 1) := by decide +kernel
theorem tz_168_46 : tw_E sc d 168 46 [x0, x1, x2, x3, x4, x5, x6, x7, x8, x9, x10, x11] st g mi mr Q = tw_E sc d 168 47 [x0, x1, x2, x3, x4, x5, x6, x7, x8, x9, x10, x11] (.int 0 :: st) g mi mr Q := tw_x_iconst td_168_46 (by decide)
theorem td_168_47 : decode (tw_cd 168) 47 = .ok (.istore 4, 2) := by decide +kernel
theorem tz_168_47 : tw_E sc d 168 47 [x0, x1, x2, x3, x4, x5, x6, x7, x8, x9, x10, x11] (.int v :: st) g mi mr Q = tw_E sc d 168 49 [x0, x1, x2, x3, some (.int v), x5, x6, x7, x8, x9, x10, x11] st g mi mr Q := tw_x_istore td_168_47 tp_168 rfl
theorem td_168_49 : decode (tw_cd 168) 49 = .ok (.iconst 0, 1) := by decide +kernel
theorem tz_168_49 : tw_E sc d 168 49 [x0, x1, x2, x3, x4, x5, x6, x7, x8, x9, x10, x11] st g mi mr Q = tw_E sc d 168 50 [x0, x1, x2, x3, x4, x5, x6, x7, x8, x9, x10, x11] (.int 0 :: st) g mi mr Q := tw_x_iconst td_168_49 (by decide)
theorem td_168_50 : decode (tw_cd 168) 50 = .ok (.istore 5, 2) := by decide +kernel
theorem tz_168_50 : tw_E sc d 168 50 [x0, x1, x2, x3, x4, x5, x6, x7, x8, x9, x10, x11] (.int v :: st) g mi mr Q = tw_E sc d 168 52 [x0, x1, x2, x3, x4, some (.int v), x6, x7, x8, x9, x10, x11] st g mi mr Q := tw_x_istore td_168_50 tp_168 rfl
theorem td_168_52 : decode (tw_cd 168) 52 = .ok (.iconst 0, 1) := by decide +kernel
theorem tz_168_52 : tw_E sc d 168 52 [x0, x1, x2, x3, x4, x5, x6, x7, x8, x9, x10, x11] st g mi mr Q = tw_E sc d 168 53 [x0, x1, x2, x3, x4, x5, x6, x7, x8, x9, x10, x11] (.int 0 :: st) g mi mr Q := tw_x_iconst td_168_52 (by decide)
theorem td_168_53 : decode (tw_cd 168) 53 = .ok (.istore 6, 2) := by decide +kernel
theorem tz_168_53 : tw_E sc d 168 53 [x0, x1, x2, x3, x4, x5, x6, x7, x8, x9, x10, x11] (.int v :: st) g mi mr Q = tw_E sc d 168 55 [x0, x1, x2, x3, x4, x5, some (.int v), x7, x8, x9, x10, x11] st g mi mr Q := tw_x_istore td_168_53 tp_168 rfl
theorem td_168_55 : decode (tw_cd 168) 55 = .ok (.iconst 1, 1) := by decide +kernel
theorem tz_168_55 : tw_E sc d 168 55 [x0, x1, x2, x3, x4, x5, x6, x7, x8, x9, x10, x11] st g mi mr Q = tw_E sc d 168 56 [x0, x1, x2, x3, x4, x5, x6, x7, x8, x9, x10, x11] (.int 1 :: st) g mi mr Q := tw_x_iconst td_168_55 (by decide)
theorem td_168_56 : decode (tw_cd 168) 56 = .ok (.istore 7, 2) := by decide +kernel
theorem tz_168_56 : tw_E sc d 168 56 [x0, x1, x2, x3, x4, x5, x6, x7, x8, x9, x10, x11] (.int v :: st) g mi mr Q = tw_E sc d 168 58 [x0, x1, x2, x3, x4, x5, x6, some (.int v), x8, x9, x10, x11] st g mi mr Q := tw_x_istore td_168_56 tp_168 rfl
theorem td_168_58 : decode (tw_cd 168) 58 = .ok (.iload 7, 2) := by decide +kernel
theorem tz_168_58 : tw_E sc d 168 58 [x0, x1, x2, x3, x4, x5, x6, some (.int v), x8, x9, x10, x11] st g mi mr Q = tw_E sc d 168 60 [x0, x1, x2, x3, x4, x5, x6, some (.int v), x8, x9, x10, x11] (.int v :: st) g mi mr Q := tw_x_iload td_168_58 rfl
theorem td_168_60 : decode (tw_cd 168) 60 = .ok (.aload_n 0, 1) := by decide +kernel
theorem tz_168_60 : tw_E sc d 168 60 [some (.ref a), x1, x2, x3, x4, x5, x6, x7, x8, x9, x10, x11] st g mi mr Q = tw_E sc d 168 61 [some (.ref a), x1, x2, x3, x4, x5, x6, x7, x8, x9, x10, x11] (.ref a :: st) g mi mr Q := tw_x_aload_n td_168_60 rfl
theorem td_168_61 : decode (tw_cd 168) 61 = .ok (.getfield 185, 3) := by decide +kernel
theorem tz_168_61 : tw_E sc d 168 61 [x0, x1, x2, x3, x4, x5, x6, x7, x8, x9, x10, x11] (.ref a :: st) g mi mr Q = (tw_kd g a = 10 ∧ tw_E sc d 168 64 [x0, x1, x2, x3, x4, x5, x6, x7, x8, x9, x10, x11] (.int (mi a 20) :: st) g mi mr Q) := tw_x_geti td_168_61 to_168 tf_10_185 (trf_10_20)
theorem td_168_64 : decode (tw_cd 168) 64 = .ok (.if_icmp .ge 231, 3) := by decide +kernel
theorem tz_168_64 : tw_E sc d 168 64 [x0, x1, x2, x3, x4, x5, x6, x7, x8, x9, x10, x11] (.int w :: .int v :: st) g mi mr Q = if w ≤ v then tw_E sc d 168 295 [x0, x1, x2, x3, x4, x5, x6, x7, x8, x9, x10, x11] st g mi mr Q else tw_E sc d 168 67 [x0, x1, x2, x3, x4, x5, x6, x7, x8, x9, x10, x11] st g mi mr Q := tw_x_ic_ge td_168_64 (by decide)
theorem td_168_67 : decode (tw_cd 168) 67 = .ok (.aload_n 0, 1) := by decide +kernel
theorem tz_168_67 : tw_E sc d 168 67 [some (.ref a), x1, x2, x3, x4, x5, x6, x7, x8, x9, x10, x11] st g mi mr Q = tw_E sc d 168 68 [some (.ref a), x1, x2, x3, x4, x5, x6, x7, x8, x9, x10, x11] (.ref a :: st) g mi mr Q := tw_x_aload_n td_168_67 rfl
theorem td_168_68 : decode (tw_cd 168) 68 = .ok (.getfield 225, 3) := by decide +kernel
theorem tz_168_68 : tw_E sc d 168 68 [x0, x1, x2, x3, x4, x5, x6, x7, x8, x9, x10, x11] (.ref a :: st) g mi mr Q = (tw_kd g a = 10 ∧ tw_E sc d 168 71 [x0, x1, x2, x3, x4, x5, x6, x7, x8, x9, x10, x11] (.int (mi a 25) :: st) g mi mr Q) := tw_x_geti td_168_68 to_168 tf_10_225 (trf_10_25)
theorem td_168_71 : decode (tw_cd 168) 71 = .ok (.sipush 400, 3) := by decide +kernel
theorem tz_168_71 : tw_E sc d 168 71 [x0, x1, x2, x3, x4, x5, x6, x7, x8, x9, x10, x11] st g mi mr Q = tw_E sc d 168 74 [x0, x1, x2, x3, x4, x5, x6, x7, x8, x9, x10, x11] (.int 400 :: st) g mi mr Q := tw_x_sipush td_168_71 (by decide)
theorem td_168_74 : decode (tw_cd 168) 74 = .ok (.if_icmp .ge 221, 3) := by decide +kernel
theorem tz_168_74 : tw_E sc d 168 74 [x0, x1, x2, x3, x4, x5, x6, x7, x8, x9, x10, x11] (.int w :: .int v :: st) g mi mr Q = if w ≤ v then tw_E sc d 168 295 [x0, x1, x2, x3, x4, x5, x6, x7, x8, x9, x10, x11] st g mi mr Q else tw_E sc d 168 77 [x0, x1, x2, x3, x4, x5, x6, x7, x8, x9, x10, x11] st g mi mr Q := tw_x_ic_ge td_168_74 (by decide)
theorem td_168_77 : decode (tw_cd 168) 77 = .ok (.aload_n 0, 1) := by decide +kernel
theorem tz_168_77 : tw_E sc d 168 77 [some (.ref a), x1, x2, x3, x4, x5, x6, x7, x8, x9, x10, x11] st g mi mr Q = tw_E sc d 168 78 [some (.ref a), x1, x2, x3, x4, x5, x6, x7, x8, x9, x10, x11] (.ref a :: st) g mi mr Q := tw_x_aload_n td_168_77 rfl
theorem td_168_78 : decode (tw_cd 168) 78 = .ok (.getfield 53, 3) := by decide +kernel
theorem tz_168_78 : tw_E sc d 168 78 [x0, x1, x2, x3, x4, x5, x6, x7, x8, x9, x10, x11] (.ref a :: st) g mi mr Q = (tw_kd g a = 10 ∧ tw_E sc d 168 81 [x0, x1, x2, x3, x4, x5, x6, x7, x8, x9, x10, x11] (va_rf (mr a 21) :: st) g mi mr Q) := tw_x_getr td_168_78 to_168 tf_10_53 (trf_10_21)
theorem td_168_81 : decode (tw_cd 168) 81 = .ok (.iload 7, 2) := by decide +kernel
theorem tz_168_81 : tw_E sc d 168 81 [x0, x1, x2, x3, x4, x5, x6, some (.int v), x8, x9, x10, x11] st g mi mr Q = tw_E sc d 168 83 [x0, x1, x2, x3, x4, x5, x6, some (.int v), x8, x9, x10, x11] (.int v :: st) g mi mr Q := tw_x_iload td_168_81 rfl
theorem td_168_83 : decode (tw_cd 168) 83 = .ok (.iaload, 1) := by decide +kernel
theorem tz_168_83 : tw_E sc d 168 83 [x0, x1, x2, x3, x4, x5, x6, x7, x8, x9, x10, x11] (.int v :: .ref a :: st) g mi mr Q = ((tw_kd g a = 20 ∧ vp_in v (tw_ln g a)) ∧ tw_E sc d 168 84 [x0, x1, x2, x3, x4, x5, x6, x7, x8, x9, x10, x11] (.int (mi a v.toNatClampNeg) :: st) g mi mr Q) := tw_x_iald td_168_83
theorem td_168_84 : decode (tw_cd 168) 84 = .ok (.iload_n 1, 1) := by decide +kernel
theorem tz_168_84 : tw_E sc d 168 84 [x0, some (.int v), x2, x3, x4, x5, x6, x7, x8, x9, x10, x11] st g mi mr Q = tw_E sc d 168 85 [x0, some (.int v), x2, x3, x4, x5, x6, x7, x8, x9, x10, x11] (.int v :: st) g mi mr Q := tw_x_iload_n td_168_84 rfl
theorem td_168_85 : decode (tw_cd 168) 85 = .ok (.invokestatic 192, 3) := by decide +kernel
theorem tz_168_85 {a0 : Int32} {a1 : Int32} : tw_E sc (d + 1) 168 85 [x0, x1, x2, x3, x4, x5, x6, x7, x8, x9, x10, x11] ([.int a1, .int a0]) g mi mr Q = tw_E sc d 146 0 [some (.int a0), some (.int a1)] [] g mi mr (tw_K sc (d + 1) 168 88 [x0, x1, x2, x3, x4, x5, x6, x7, x8, x9, x10, x11] [] Q) := tw_x_cs (as := [.int a0, .int a1]) (r := []) td_168_85 to_168 tmn_10_192 tc_10_192 rfl rfl rfl rfl rfl
theorem td_168_88 : decode (tw_cd 168) 88 = .ok (.istore 8, 2) := by decide +kernel
theorem tz_168_88 : tw_E sc d 168 88 [x0, x1, x2, x3, x4, x5, x6, x7, x8, x9, x10, x11] (.int v :: st) g mi mr Q = tw_E sc d 168 90 [x0, x1, x2, x3, x4, x5, x6, x7, some (.int v), x9, x10, x11] st g mi mr Q := tw_x_istore td_168_88 tp_168 rfl
theorem td_168_90 : decode (tw_cd 168) 90 = .ok (.aload_n 0, 1) := by decide +kernel
theorem tz_168_90 : tw_E sc d 168 90 [some (.ref a), x1, x2, x3, x4, x5, x6, x7, x8, x9, x10, x11] st g mi mr Q = tw_E sc d 168 91 [some (.ref a), x1, x2, x3, x4, x5, x6, x7, x8, x9, x10, x11] (.ref a :: st) g mi mr Q := tw_x_aload_n td_168_90 rfl
theorem td_168_91 : decode (tw_cd 168) 91 = .ok (.getfield 53, 3) := by decide +kernel
theorem tz_168_91 : tw_E sc d 168 91 [x0, x1, x2, x3, x4, x5, x6, x7, x8, x9, x10, x11] (.ref a :: st) g mi mr Q = (tw_kd g a = 10 ∧ tw_E sc d 168 94 [x0, x1, x2, x3, x4, x5, x6, x7, x8, x9, x10, x11] (va_rf (mr a 21) :: st) g mi mr Q) := tw_x_getr td_168_91 to_168 tf_10_53 (trf_10_21)
theorem td_168_94 : decode (tw_cd 168) 94 = .ok (.iload 7, 2) := by decide +kernel
theorem tz_168_94 : tw_E sc d 168 94 [x0, x1, x2, x3, x4, x5, x6, some (.int v), x8, x9, x10, x11] st g mi mr Q = tw_E sc d 168 96 [x0, x1, x2, x3, x4, x5, x6, some (.int v), x8, x9, x10, x11] (.int v :: st) g mi mr Q := tw_x_iload td_168_94 rfl
theorem td_168_96 : decode (tw_cd 168) 96 = .ok (.iconst 1, 1) := by decide +kernel
theorem tz_168_96 : tw_E sc d 168 96 [x0, x1, x2, x3, x4, x5, x6, x7, x8, x9, x10, x11] st g mi mr Q = tw_E sc d 168 97 [x0, x1, x2, x3, x4, x5, x6, x7, x8, x9, x10, x11] (.int 1 :: st) g mi mr Q := tw_x_iconst td_168_96 (by decide)
theorem td_168_97 : decode (tw_cd 168) 97 = .ok (.isub, 1) := by decide +kernel
theorem tz_168_97 : tw_E sc d 168 97 [x0, x1, x2, x3, x4, x5, x6, x7, x8, x9, x10, x11] (.int w :: .int v :: st) g mi mr Q = tw_E sc d 168 98 [x0, x1, x2, x3, x4, x5, x6, x7, x8, x9, x10, x11] (.int (v - w) :: st) g mi mr Q := tw_x_isub td_168_97
theorem td_168_98 : decode (tw_cd 168) 98 = .ok (.iaload, 1) := by decide +kernel
theorem tz_168_98 : tw_E sc d 168 98 [x0, x1, x2, x3, x4, x5, x6, x7, x8, x9, x10, x11] (.int v :: .ref a :: st) g mi mr Q = ((tw_kd g a = 20 ∧ vp_in v (tw_ln g a)) ∧ tw_E sc d 168 99 [x0, x1, x2, x3, x4, x5, x6, x7, x8, x9, x10, x11] (.int (mi a v.toNatClampNeg) :: st) g mi mr Q) := tw_x_iald td_168_98
theorem td_168_99 : decode (tw_cd 168) 99 = .ok (.iload_n 1, 1) := by decide +kernel
theorem tz_168_99 : tw_E sc d 168 99 [x0, some (.int v), x2, x3, x4, x5, x6, x7, x8, x9, x10, x11] st g mi mr Q = tw_E sc d 168 100 [x0, some (.int v), x2, x3, x4, x5, x6, x7, x8, x9, x10, x11] (.int v :: st) g mi mr Q := tw_x_iload_n td_168_99 rfl
theorem td_168_100 : decode (tw_cd 168) 100 = .ok (.invokestatic 192, 3) := by decide +kernel
theorem tz_168_100 {a0 : Int32} {a1 : Int32} : tw_E sc (d + 1) 168 100 [x0, x1, x2, x3, x4, x5, x6, x7, x8, x9, x10, x11] ([.int a1, .int a0]) g mi mr Q = tw_E sc d 146 0 [some (.int a0), some (.int a1)] [] g mi mr (tw_K sc (d + 1) 168 103 [x0, x1, x2, x3, x4, x5, x6, x7, x8, x9, x10, x11] [] Q) := tw_x_cs (as := [.int a0, .int a1]) (r := []) td_168_100 to_168 tmn_10_192 tc_10_192 rfl rfl rfl rfl rfl
theorem td_168_103 : decode (tw_cd 168) 103 = .ok (.istore 9, 2) := by decide +kernel
theorem tz_168_103 : tw_E sc d 168 103 [x0, x1, x2, x3, x4, x5, x6, x7, x8, x9, x10, x11] (.int v :: st) g mi mr Q = tw_E sc d 168 105 [x0, x1, x2, x3, x4, x5, x6, x7, x8, some (.int v), x10, x11] st g mi mr Q := tw_x_istore td_168_103 tp_168 rfl
theorem td_168_105 : decode (tw_cd 168) 105 = .ok (.aload_n 0, 1) := by decide +kernel
theorem tz_168_105 : tw_E sc d 168 105 [some (.ref a), x1, x2, x3, x4, x5, x6, x7, x8, x9, x10, x11] st g mi mr Q = tw_E sc d 168 106 [some (.ref a), x1, x2, x3, x4, x5, x6, x7, x8, x9, x10, x11] (.ref a :: st) g mi mr Q := tw_x_aload_n td_168_105 rfl
theorem td_168_106 : decode (tw_cd 168) 106 = .ok (.getfield 53, 3) := by decide +kernel
theorem tz_168_106 : tw_E sc d 168 106 [x0, x1, x2, x3, x4, x5, x6, x7, x8, x9, x10, x11] (.ref a :: st) g mi mr Q = (tw_kd g a = 10 ∧ tw_E sc d 168 109 [x0, x1, x2, x3, x4, x5, x6, x7, x8, x9, x10, x11] (va_rf (mr a 21) :: st) g mi mr Q) := tw_x_getr td_168_106 to_168 tf_10_53 (trf_10_21)
theorem td_168_109 : decode (tw_cd 168) 109 = .ok (.iload 7, 2) := by decide +kernel
theorem tz_168_109 : tw_E sc d 168 109 [x0, x1, x2, x3, x4, x5, x6, some (.int v), x8, x9, x10, x11] st g mi mr Q = tw_E sc d 168 111 [x0, x1, x2, x3, x4, x5, x6, some (.int v), x8, x9, x10, x11] (.int v :: st) g mi mr Q := tw_x_iload td_168_109 rfl
theorem td_168_111 : decode (tw_cd 168) 111 = .ok (.iaload, 1) := by decide +kernel
theorem tz_168_111 : tw_E sc d 168 111 [x0, x1, x2, x3, x4, x5, x6, x7, x8, x9, x10, x11] (.int v :: .ref a :: st) g mi mr Q = ((tw_kd g a = 20 ∧ vp_in v (tw_ln g a)) ∧ tw_E sc d 168 112 [x0, x1, x2, x3, x4, x5, x6, x7, x8, x9, x10, x11] (.int (mi a v.toNatClampNeg) :: st) g mi mr Q) := tw_x_iald td_168_111
theorem td_168_112 : decode (tw_cd 168) 112 = .ok (.iload_n 2, 1) := by decide +kernel
theorem tz_168_112 : tw_E sc d 168 112 [x0, x1, some (.int v), x3, x4, x5, x6, x7, x8, x9, x10, x11] st g mi mr Q = tw_E sc d 168 113 [x0, x1, some (.int v), x3, x4, x5, x6, x7, x8, x9, x10, x11] (.int v :: st) g mi mr Q := tw_x_iload_n td_168_112 rfl
theorem td_168_113 : decode (tw_cd 168) 113 = .ok (.invokestatic 192, 3) := by decide +kernel
theorem tz_168_113 {a0 : Int32} {a1 : Int32} : tw_E sc (d + 1) 168 113 [x0, x1, x2, x3, x4, x5, x6, x7, x8, x9, x10, x11] ([.int a1, .int a0]) g mi mr Q = tw_E sc d 146 0 [some (.int a0), some (.int a1)] [] g mi mr (tw_K sc (d + 1) 168 116 [x0, x1, x2, x3, x4, x5, x6, x7, x8, x9, x10, x11] [] Q) := tw_x_cs (as := [.int a0, .int a1]) (r := []) td_168_113 to_168 tmn_10_192 tc_10_192 rfl rfl rfl rfl rfl
theorem td_168_116 : decode (tw_cd 168) 116 = .ok (.istore 10, 2) := by decide +kernel
theorem tz_168_116 : tw_E sc d 168 116 [x0, x1, x2, x3, x4, x5, x6, x7, x8, x9, x10, x11] (.int v :: st) g mi mr Q = tw_E sc d 168 118 [x0, x1, x2, x3, x4, x5, x6, x7, x8, x9, some (.int v), x11] st g mi mr Q := tw_x_istore td_168_116 tp_168 rfl
theorem td_168_118 : decode (tw_cd 168) 118 = .ok (.aload_n 0, 1) := by decide +kernel
theorem tz_168_118 : tw_E sc d 168 118 [some (.ref a), x1, x2, x3, x4, x5, x6, x7, x8, x9, x10, x11] st g mi mr Q = tw_E sc d 168 119 [some (.ref a), x1, x2, x3, x4, x5, x6, x7, x8, x9, x10, x11] (.ref a :: st) g mi mr Q := tw_x_aload_n td_168_118 rfl
theorem td_168_119 : decode (tw_cd 168) 119 = .ok (.getfield 53, 3) := by decide +kernel
theorem tz_168_119 : tw_E sc d 168 119 [x0, x1, x2, x3, x4, x5, x6, x7, x8, x9, x10, x11] (.ref a :: st) g mi mr Q = (tw_kd g a = 10 ∧ tw_E sc d 168 122 [x0, x1, x2, x3, x4, x5, x6, x7, x8, x9, x10, x11] (va_rf (mr a 21) :: st) g mi mr Q) := tw_x_getr td_168_119 to_168 tf_10_53 (trf_10_21)
theorem td_168_122 : decode (tw_cd 168) 122 = .ok (.iload 7, 2) := by decide +kernel
theorem tz_168_122 : tw_E sc d 168 122 [x0, x1, x2, x3, x4, x5, x6, some (.int v), x8, x9, x10, x11] st g mi mr Q = tw_E sc d 168 124 [x0, x1, x2, x3, x4, x5, x6, some (.int v), x8, x9, x10, x11] (.int v :: st) g mi mr Q := tw_x_iload td_168_122 rfl
theorem td_168_124 : decode (tw_cd 168) 124 = .ok (.iconst 1, 1) := by decide +kernel
theorem tz_168_124 : tw_E sc d 168 124 [x0, x1, x2, x3, x4, x5, x6, x7, x8, x9, x10, x11] st g mi mr Q = tw_E sc d 168 125 [x0, x1, x2, x3, x4, x5, x6, x7, x8, x9, x10, x11] (.int 1 :: st) g mi mr Q := tw_x_iconst td_168_124 (by decide)
theorem td_168_125 : decode (tw_cd 168) 125 = .ok (.isub, 1) := by decide +kernel
theorem tz_168_125 : tw_E sc d 168 125 [x0, x1, x2, x3, x4, x5, x6, x7, x8, x9, x10, x11] (.int w :: .int v :: st) g mi mr Q = tw_E sc d 168 126 [x0, x1, x2, x3, x4, x5, x6, x7, x8, x9, x10, x11] (.int (v - w) :: st) g mi mr Q := tw_x_isub td_168_125
theorem td_168_126 : decode (tw_cd 168) 126 = .ok (.iaload, 1) := by decide +kernel
theorem tz_168_126 : tw_E sc d 168 126 [x0, x1, x2, x3, x4, x5, x6, x7, x8, x9, x10, x11] (.int v :: .ref a :: st) g mi mr Q = ((tw_kd g a = 20 ∧ vp_in v (tw_ln g a)) ∧ tw_E sc d 168 127 [x0, x1, x2, x3, x4, x5, x6, x7, x8, x9, x10, x11] (.int (mi a v.toNatClampNeg) :: st) g mi mr Q) := tw_x_iald td_168_126
theorem td_168_127 : decode (tw_cd 168) 127 = .ok (.iload_n 2, 1) := by decide +kernel
theorem tz_168_127 : tw_E sc d 168 127 [x0, x1, some (.int v), x3, x4, x5, x6, x7, x8, x9, x10, x11] st g mi mr Q = tw_E sc d 168 128 [x0, x1, some (.int v), x3, x4, x5, x6, x7, x8, x9, x10, x11] (.int v :: st) g mi mr Q := tw_x_iload_n td_168_127 rfl
theorem td_168_128 : decode (tw_cd 168) 128 = .ok (.invokestatic 192, 3) := by decide +kernel
theorem tz_168_128 {a0 : Int32} {a1 : Int32} : tw_E sc (d + 1) 168 128 [x0, x1, x2, x3, x4, x5, x6, x7, x8, x9, x10, x11] ([.int a1, .int a0]) g mi mr Q = tw_E sc d 146 0 [some (.int a0), some (.int a1)] [] g mi mr (tw_K sc (d + 1) 168 131 [x0, x1, x2, x3, x4, x5, x6, x7, x8, x9, x10, x11] [] Q) := tw_x_cs (as := [.int a0, .int a1]) (r := []) td_168_128 to_168 tmn_10_192 tc_10_192 rfl rfl rfl rfl rfl
theorem td_168_131 : decode (tw_cd 168) 131 = .ok (.istore 11, 2) := by decide +kernel
theorem tz_168_131 : tw_E sc d 168 131 [x0, x1, x2, x3, x4, x5, x6, x7, x8, x9, x10, x11] (.int v :: st) g mi mr Q = tw_E sc d 168 133 [x0, x1, x2, x3, x4, x5, x6, x7, x8, x9, x10, some (.int v)] st g mi mr Q := tw_x_istore td_168_131 tp_168 rfl
theorem td_168_133 : decode (tw_cd 168) 133 = .ok (.iload 8, 2) := by decide +kernel
theorem tz_168_133 : tw_E sc d 168 133 [x0, x1, x2, x3, x4, x5, x6, x7, some (.int v), x9, x10, x11] st g mi mr Q = tw_E sc d 168 135 [x0, x1, x2, x3, x4, x5, x6, x7, some (.int v), x9, x10, x11] (.int v :: st) g mi mr Q := tw_x_iload td_168_133 rfl
theorem td_168_135 : decode (tw_cd 168) 135 = .ok (.iconst 1, 1) := by decide +kernel
theorem tz_168_135 : tw_E sc d 168 135 [x0, x1, x2, x3, x4, x5, x6, x7, x8, x9, x10, x11] st g mi mr Q = tw_E sc d 168 136 [x0, x1, x2, x3, x4, x5, x6, x7, x8, x9, x10, x11] (.int 1 :: st) g mi mr Q := tw_x_iconst td_168_135 (by decide)
theorem td_168_136 : decode (tw_cd 168) 136 = .ok (.if_icmp .ne 39, 3) := by decide +kernel
theorem tz_168_136 : tw_E sc d 168 136 [x0, x1, x2, x3, x4, x5, x6, x7, x8, x9, x10, x11] (.int w :: .int v :: st) g mi mr Q = if ¬ v = w then tw_E sc d 168 175 [x0, x1, x2, x3, x4, x5, x6, x7, x8, x9, x10, x11] st g mi mr Q else tw_E sc d 168 139 [x0, x1, x2, x3, x4, x5, x6, x7, x8, x9, x10, x11] st g mi mr Q := tw_x_ic_ne td_168_136 (by decide)
theorem td_168_139 : decode (tw_cd 168) 139 = .ok (.iload 9, 2) := by decide +kernel
theorem tz_168_139 : tw_E sc d 168 139 [x0, x1, x2, x3, x4, x5, x6, x7, x8, some (.int v), x10, x11] st g mi mr Q = tw_E sc d 168 141 [x0, x1, x2, x3, x4, x5, x6, x7, x8, some (.int v), x10, x11] (.int v :: st) g mi mr Q := tw_x_iload td_168_139 rfl
theorem td_168_141 : decode (tw_cd 168) 141 = .ok (.iconst 1, 1) := by decide +kernel
theorem tz_168_141 : tw_E sc d 168 141 [x0, x1, x2, x3, x4, x5, x6, x7, x8, x9, x10, x11] st g mi mr Q = tw_E sc d 168 142 [x0, x1, x2, x3, x4, x5, x6, x7, x8, x9, x10, x11] (.int 1 :: st) g mi mr Q := tw_x_iconst td_168_141 (by decide)
theorem td_168_142 : decode (tw_cd 168) 142 = .ok (.if_icmp .ne 33, 3) := by decide +kernel
theorem tz_168_142 : tw_E sc d 168 142 [x0, x1, x2, x3, x4, x5, x6, x7, x8, x9, x10, x11] (.int w :: .int v :: st) g mi mr Q = if ¬ v = w then tw_E sc d 168 175 [x0, x1, x2, x3, x4, x5, x6, x7, x8, x9, x10, x11] st g mi mr Q else tw_E sc d 168 145 [x0, x1, x2, x3, x4, x5, x6, x7, x8, x9, x10, x11] st g mi mr Q := tw_x_ic_ne td_168_142 (by decide)
theorem td_168_145 : decode (tw_cd 168) 145 = .ok (.iload 11, 2) := by decide +kernel
theorem tz_168_145 : tw_E sc d 168 145 [x0, x1, x2, x3, x4, x5, x6, x7, x8, x9, x10, some (.int v)] st g mi mr Q = tw_E sc d 168 147 [x0, x1, x2, x3, x4, x5, x6, x7, x8, x9, x10, some (.int v)] (.int v :: st) g mi mr Q := tw_x_iload td_168_145 rfl
theorem td_168_147 : decode (tw_cd 168) 147 = .ok (.iload 10, 2) := by decide +kernel
theorem tz_168_147 : tw_E sc d 168 147 [x0, x1, x2, x3, x4, x5, x6, x7, x8, x9, some (.int v), x11] st g mi mr Q = tw_E sc d 168 149 [x0, x1, x2, x3, x4, x5, x6, x7, x8, x9, some (.int v), x11] (.int v :: st) g mi mr Q := tw_x_iload td_168_147 rfl
theorem td_168_149 : decode (tw_cd 168) 149 = .ok (.if_icmp .le 26, 3) := by decide +kernel
theorem tz_168_149 : tw_E sc d 168 149 [x0, x1, x2, x3, x4, x5, x6, x7, x8, x9, x10, x11] (.int w :: .int v :: st) g mi mr Q = if v ≤ w then tw_E sc d 168 175 [x0, x1, x2, x3, x4, x5, x6, x7, x8, x9, x10, x11] st g mi mr Q else tw_E sc d 168 152 [x0, x1, x2, x3, x4, x5, x6, x7, x8, x9, x10, x11] st g mi mr Q := tw_x_ic_le td_168_149 (by decide)
theorem td_168_152 : decode (tw_cd 168) 152 = .ok (.aload_n 0, 1) := by decide +kernel
theorem tz_168_152 : tw_E sc d 168 152 [some (.ref a), x1, x2, x3, x4, x5, x6, x7, x8, x9, x10, x11] st g mi mr Q = tw_E sc d 168 153 [some (.ref a), x1, x2, x3, x4, x5, x6, x7, x8, x9, x10, x11] (.ref a :: st) g mi mr Q := tw_x_aload_n td_168_152 rfl
theorem td_168_153 : decode (tw_cd 168) 153 = .ok (.iconst 1, 1) := by decide +kernel
theorem tz_168_153 : tw_E sc d 168 153 [x0, x1, x2, x3, x4, x5, x6, x7, x8, x9, x10, x11] st g mi mr Q = tw_E sc d 168 154 [x0, x1, x2, x3, x4, x5, x6, x7, x8, x9, x10, x11] (.int 1 :: st) g mi mr Q := tw_x_iconst td_168_153 (by decide)
theorem td_168_154 : decode (tw_cd 168) 154 = .ok (.bipush (-9), 2) := by decide +kernel
theorem tz_168_154 : tw_E sc d 168 154 [x0, x1, x2, x3, x4, x5, x6, x7, x8, x9, x10, x11] st g mi mr Q = tw_E sc d 168 156 [x0, x1, x2, x3, x4, x5, x6, x7, x8, x9, x10, x11] (.int (-9) :: st) g mi mr Q := tw_x_bipush td_168_154 (by decide)
theorem td_168_156 : decode (tw_cd 168) 156 = .ok (.iload 7, 2) := by decide +kernel
theorem tz_168_156 : tw_E sc d 168 156 [x0, x1, x2, x3, x4, x5, x6, some (.int v), x8, x9, x10, x11] st g mi mr Q = tw_E sc d 168 158 [x0, x1, x2, x3, x4, x5, x6, some (.int v), x8, x9, x10, x11] (.int v :: st) g mi mr Q := tw_x_iload td_168_156 rfl
theorem td_168_158 : decode (tw_cd 168) 158 = .ok (.invokevirtual 228, 3) := by decide +kernel
theorem tz_168_158 {a0 : Int32} {a1 : Int32} {a2 : Int32} : tw_E sc (d + 1) 168 158 [x0, x1, x2, x3, x4, x5, x6, x7, x8, x9, x10, x11] ([.int a2, .int a1, .int a0, .ref a]) g mi mr Q = (tw_kd g a = 10 ∧ tw_E sc d 164 0 [some (.ref a), some (.int a0), some (.int a1), some (.int a2)] [] g mi mr (tw_K sc (d + 1) 168 161 [x0, x1, x2, x3, x4, x5, x6, x7, x8, x9, x10, x11] [] Q)) := tw_x_cv (as := [.int a0, .int a1, .int a2]) (r := []) td_168_158 to_168 tc_10_228 to_164 rfl rfl rfl rfl
theorem td_168_161 : decode (tw_cd 168) 161 = .ok (.iconst 1, 1) := by decide +kernel
theorem tz_168_161 : tw_E sc d 168 161 [x0, x1, x2, x3, x4, x5, x6, x7, x8, x9, x10, x11] st g mi mr Q = tw_E sc d 168 162 [x0, x1, x2, x3, x4, x5, x6, x7, x8, x9, x10, x11] (.int 1 :: st) g mi mr Q := tw_x_iconst td_168_161 (by decide)
theorem td_168_162 : decode (tw_cd 168) 162 = .ok (.istore_n 3, 1) := by decide +kernel
theorem tz_168_162 : tw_E sc d 168 162 [x0, x1, x2, x3, x4, x5, x6, x7, x8, x9, x10, x11] (.int v :: st) g mi mr Q = tw_E sc d 168 163 [x0, x1, x2, some (.int v), x4, x5, x6, x7, x8, x9, x10, x11] st g mi mr Q := tw_x_istore_n td_168_162 tp_168 rfl
theorem td_168_163 : decode (tw_cd 168) 163 = .ok (.iconst 0, 1) := by decide +kernel
theorem tz_168_163 : tw_E sc d 168 163 [x0, x1, x2, x3, x4, x5, x6, x7, x8, x9, x10, x11] st g mi mr Q = tw_E sc d 168 164 [x0, x1, x2, x3, x4, x5, x6, x7, x8, x9, x10, x11] (.int 0 :: st) g mi mr Q := tw_x_iconst td_168_163 (by decide)
theorem td_168_164 : decode (tw_cd 168) 164 = .ok (.istore 4, 2) := by decide +kernel
theorem tz_168_164 : tw_E sc d 168 164 [x0, x1, x2, x3, x4, x5, x6, x7, x8, x9, x10, x11] (.int v :: st) g mi mr Q = tw_E sc d 168 166 [x0, x1, x2, x3, some (.int v), x5, x6, x7, x8, x9, x10, x11] st g mi mr Q := tw_x_istore td_168_164 tp_168 rfl
theorem td_168_166 : decode (tw_cd 168) 166 = .ok (.iconst 0, 1) := by decide +kernel
theorem tz_168_166 : tw_E sc d 168 166 [x0, x1, x2, x3, x4, x5, x6, x7, x8, x9, x10, x11] st g mi mr Q = tw_E sc d 168 167 [x0, x1, x2, x3, x4, x5, x6, x7, x8, x9, x10, x11] (.int 0 :: st) g mi mr Q := tw_x_iconst td_168_166 (by decide)
theorem td_168_167 : decode (tw_cd 168) 167 = .ok (.istore 5, 2) := by decide +kernel
theorem tz_168_167 : tw_E sc d 168 167 [x0, x1, x2, x3, x4, x5, x6, x7, x8, x9, x10, x11] (.int v :: st) g mi mr Q = tw_E sc d 168 169 [x0, x1, x2, x3, x4, some (.int v), x6, x7, x8, x9, x10, x11] st g mi mr Q := tw_x_istore td_168_167 tp_168 rfl
theorem td_168_169 : decode (tw_cd 168) 169 = .ok (.iconst 0, 1) := by decide +kernel
theorem tz_168_169 : tw_E sc d 168 169 [x0, x1, x2, x3, x4, x5, x6, x7, x8, x9, x10, x11] st g mi mr Q = tw_E sc d 168 170 [x0, x1, x2, x3, x4, x5, x6, x7, x8, x9, x10, x11] (.int 0 :: st) g mi mr Q := tw_x_iconst td_168_169 (by decide)
theorem td_168_170 : decode (tw_cd 168) 170 = .ok (.istore 6, 2) := by decide +kernel
theorem tz_168_170 : tw_E sc d 168 170 [x0, x1, x2, x3, x4, x5, x6, x7, x8, x9, x10, x11] (.int v :: st) g mi mr Q = tw_E sc d 168 172 [x0, x1, x2, x3, x4, x5, some (.int v), x7, x8, x9, x10, x11] st g mi mr Q := tw_x_istore td_168_170 tp_168 rfl
theorem td_168_172 : decode (tw_cd 168) 172 = .ok (.goto 117, 3) := by decide +kernel
theorem tz_168_172 : tw_E sc d 168 172 [x0, x1, x2, x3, x4, x5, x6, x7, x8, x9, x10, x11] st g mi mr Q = tw_E sc d 168 289 [x0, x1, x2, x3, x4, x5, x6, x7, x8, x9, x10, x11] st g mi mr Q := tw_x_goto td_168_172 (by decide)
theorem td_168_175 : decode (tw_cd 168) 175 = .ok (.iload 8, 2) := by decide +kernel
theorem tz_168_175 : tw_E sc d 168 175 [x0, x1, x2, x3, x4, x5, x6, x7, some (.int v), x9, x10, x11] st g mi mr Q = tw_E sc d 168 177 [x0, x1, x2, x3, x4, x5, x6, x7, some (.int v), x9, x10, x11] (.int v :: st) g mi mr Q := tw_x_iload td_168_175 rfl
theorem td_168_177 : decode (tw_cd 168) 177 = .ok (.iconst 1, 1) := by decide +kernel
theorem tz_168_177 : tw_E sc d 168 177 [x0, x1, x2, x3, x4, x5, x6, x7, x8, x9, x10, x11] st g mi mr Q = tw_E sc d 168 178 [x0, x1, x2, x3, x4, x5, x6, x7, x8, x9, x10, x11] (.int 1 :: st) g mi mr Q := tw_x_iconst td_168_177 (by decide)
theorem td_168_178 : decode (tw_cd 168) 178 = .ok (.if_icmp .ne 48, 3) := by decide +kernel
theorem tz_168_178 : tw_E sc d 168 178 [x0, x1, x2, x3, x4, x5, x6, x7, x8, x9, x10, x11] (.int w :: .int v :: st) g mi mr Q = if ¬ v = w then tw_E sc d 168 226 [x0, x1, x2, x3, x4, x5, x6, x7, x8, x9, x10, x11] st g mi mr Q else tw_E sc d 168 181 [x0, x1, x2, x3, x4, x5, x6, x7, x8, x9, x10, x11] st g mi mr Q := tw_x_ic_ne td_168_178 (by decide)
theorem td_168_181 : decode (tw_cd 168) 181 = .ok (.iload 9, 2) := by decide +kernel
theorem tz_168_181 : tw_E sc d 168 181 [x0, x1, x2, x3, x4, x5, x6, x7, x8, some (.int v), x10, x11] st g mi mr Q = tw_E sc d 168 183 [x0, x1, x2, x3, x4, x5, x6, x7, x8, some (.int v), x10, x11] (.int v :: st) g mi mr Q := tw_x_iload td_168_181 rfl
theorem td_168_183 : decode (tw_cd 168) 183 = .ok (.iconst 1, 1) := by decide +kernel
theorem tz_168_183 : tw_E sc d 168 183 [x0, x1, x2, x3, x4, x5, x6, x7, x8, x9, x10, x11] st g mi mr Q = tw_E sc d 168 184 [x0, x1, x2, x3, x4, x5, x6, x7, x8, x9, x10, x11] (.int 1 :: st) g mi mr Q := tw_x_iconst td_168_183 (by decide)
theorem td_168_184 : decode (tw_cd 168) 184 = .ok (.if_icmp .ne 42, 3) := by decide +kernel
theorem tz_168_184 : tw_E sc d 168 184 [x0, x1, x2, x3, x4, x5, x6, x7, x8, x9, x10, x11] (.int w :: .int v :: st) g mi mr Q = if ¬ v = w then tw_E sc d 168 226 [x0, x1, x2, x3, x4, x5, x6, x7, x8, x9, x10, x11] st g mi mr Q else tw_E sc d 168 187 [x0, x1, x2, x3, x4, x5, x6, x7, x8, x9, x10, x11] st g mi mr Q := tw_x_ic_ne td_168_184 (by decide)
theorem td_168_187 : decode (tw_cd 168) 187 = .ok (.iload 11, 2) := by decide +kernel
theorem tz_168_187 : tw_E sc d 168 187 [x0, x1, x2, x3, x4, x5, x6, x7, x8, x9, x10, some (.int v)] st g mi mr Q = tw_E sc d 168 189 [x0, x1, x2, x3, x4, x5, x6, x7, x8, x9, x10, some (.int v)] (.int v :: st) g mi mr Q := tw_x_iload td_168_187 rfl
theorem td_168_189 : decode (tw_cd 168) 189 = .ok (.iload 10, 2) := by decide +kernel
theorem tz_168_189 : tw_E sc d 168 189 [x0, x1, x2, x3, x4, x5, x6, x7, x8, x9, some (.int v), x11] st g mi mr Q = tw_E sc d 168 191 [x0, x1, x2, x3, x4, x5, x6, x7, x8, x9, some (.int v), x11] (.int v :: st) g mi mr Q := tw_x_iload td_168_189 rfl
theorem td_168_191 : decode (tw_cd 168) 191 = .ok (.if_icmp .ge 35, 3) := by decide +kernel
theorem tz_168_191 : tw_E sc d 168 191 [x0, x1, x2, x3, x4, x5, x6, x7, x8, x9, x10, x11] (.int w :: .int v :: st) g mi mr Q = if w ≤ v then tw_E sc d 168 226 [x0, x1, x2, x3, x4, x5, x6, x7, x8, x9, x10, x11] st g mi mr Q else tw_E sc d 168 194 [x0, x1, x2, x3, x4, x5, x6, x7, x8, x9, x10, x11] st g mi mr Q := tw_x_ic_ge td_168_191 (by decide)
theorem td_168_194 : decode (tw_cd 168) 194 = .ok (.iload_n 3, 1) := by decide +kernel
theorem tz_168_194 : tw_E sc d 168 194 [x0, x1, x2, some (.int v), x4, x5, x6, x7, x8, x9, x10, x11] st g mi mr Q = tw_E sc d 168 195 [x0, x1, x2, some (.int v), x4, x5, x6, x7, x8, x9, x10, x11] (.int v :: st) g mi mr Q := tw_x_iload_n td_168_194 rfl
theorem td_168_195 : decode (tw_cd 168) 195 = .ok (.ifCond .eq 31, 3) := by decide +kernel
theorem tz_168_195 : tw_E sc d 168 195 [x0, x1, x2, x3, x4, x5, x6, x7, x8, x9, x10, x11] (.int v :: st) g mi mr Q = if v = 0 then tw_E sc d 168 226 [x0, x1, x2, x3, x4, x5, x6, x7, x8, x9, x10, x11] st g mi mr Q else tw_E sc d 168 198 [x0, x1, x2, x3, x4, x5, x6, x7, x8, x9, x10, x11] st g mi mr Q := tw_x_if_eq td_168_195 (by decide)
theorem td_168_198 : decode (tw_cd 168) 198 = .ok (.iload 5, 2) := by decide +kernel
theorem tz_168_198 : tw_E sc d 168 198 [x0, x1, x2, x3, x4, some (.int v), x6, x7, x8, x9, x10, x11] st g mi mr Q = tw_E sc d 168 200 [x0, x1, x2, x3, x4, some (.int v), x6, x7, x8, x9, x10, x11] (.int v :: st) g mi mr Q := tw_x_iload td_168_198 rfl
theorem td_168_200 : decode (tw_cd 168) 200 = .ok (.ifCond .le 12, 3) := by decide +kernel
theorem tz_168_200 : tw_E sc d 168 200 [x0, x1, x2, x3, x4, x5, x6, x7, x8, x9, x10, x11] (.int v :: st) g mi mr Q = if v ≤ 0 then tw_E sc d 168 212 [x0, x1, x2, x3, x4, x5, x6, x7, x8, x9, x10, x11] st g mi mr Q else tw_E sc d 168 203 [x0, x1, x2, x3, x4, x5, x6, x7, x8, x9, x10, x11] st g mi mr Q := tw_x_if_le td_168_200 (by decide)
theorem td_168_203 : decode (tw_cd 168) 203 = .ok (.aload_n 0, 1) := by decide +kernel
theorem tz_168_203 : tw_E sc d 168 203 [some (.ref a), x1, x2, x3, x4, x5, x6, x7, x8, x9, x10, x11] st g mi mr Q = tw_E sc d 168 204 [some (.ref a), x1, x2, x3, x4, x5, x6, x7, x8, x9, x10, x11] (.ref a :: st) g mi mr Q := tw_x_aload_n td_168_203 rfl
theorem td_168_204 : decode (tw_cd 168) 204 = .ok (.iconst 3, 1) := by decide +kernel
theorem tz_168_204 : tw_E sc d 168 204 [x0, x1, x2, x3, x4, x5, x6, x7, x8, x9, x10, x11] st g mi mr Q = tw_E sc d 168 205 [x0, x1, x2, x3, x4, x5, x6, x7, x8, x9, x10, x11] (.int 3 :: st) g mi mr Q := tw_x_iconst td_168_204 (by decide)
theorem td_168_205 : decode (tw_cd 168) 205 = .ok (.bipush (-9), 2) := by decide +kernel
theorem tz_168_205 : tw_E sc d 168 205 [x0, x1, x2, x3, x4, x5, x6, x7, x8, x9, x10, x11] st g mi mr Q = tw_E sc d 168 207 [x0, x1, x2, x3, x4, x5, x6, x7, x8, x9, x10, x11] (.int (-9) :: st) g mi mr Q := tw_x_bipush td_168_205 (by decide)
theorem td_168_207 : decode (tw_cd 168) 207 = .ok (.iload 7, 2) := by decide +kernel
theorem tz_168_207 : tw_E sc d 168 207 [x0, x1, x2, x3, x4, x5, x6, some (.int v), x8, x9, x10, x11] st g mi mr Q = tw_E sc d 168 209 [x0, x1, x2, x3, x4, x5, x6, some (.int v), x8, x9, x10, x11] (.int v :: st) g mi mr Q := tw_x_iload td_168_207 rfl
theorem td_168_209 : decode (tw_cd 168) 209 = .ok (.invokevirtual 228, 3) := by decide +kernel
theorem tz_168_209 {a0 : Int32} {a1 : Int32} {a2 : Int32} : tw_E sc (d + 1) 168 209 [x0, x1, x2, x3, x4, x5, x6, x7, x8, x9, x10, x11] ([.int a2, .int a1, .int a0, .ref a]) g mi mr Q = (tw_kd g a = 10 ∧ tw_E sc d 164 0 [some (.ref a), some (.int a0), some (.int a1), some (.int a2)] [] g mi mr (tw_K sc (d + 1) 168 212 [x0, x1, x2, x3, x4, x5, x6, x7, x8, x9, x10, x11] [] Q)) := tw_x_cv (as := [.int a0, .int a1, .int a2]) (r := []) td_168_209 to_168 tc_10_228 to_164 rfl rfl rfl rfl
theorem td_168_212 : decode (tw_cd 168) 212 = .ok (.aload_n 0, 1) := by decide +kernel
theorem tz_168_212 : tw_E sc d 168 212 [some (.ref a), x1, x2, x3, x4, x5, x6, x7, x8, x9, x10, x11] st g mi mr Q = tw_E sc d 168 213 [some (.ref a), x1, x2, x3, x4, x5, x6, x7, x8, x9, x10, x11] (.ref a :: st) g mi mr Q := tw_x_aload_n td_168_212 rfl
theorem td_168_213 : decode (tw_cd 168) 213 = .ok (.iconst 2, 1) := by decide +kernel
theorem tz_168_213 : tw_E sc d 168 213 [x0, x1, x2, x3, x4, x5, x6, x7, x8, x9, x10, x11] st g mi mr Q = tw_E sc d 168 214 [x0, x1, x2, x3, x4, x5, x6, x7, x8, x9, x10, x11] (.int 2 :: st) g mi mr Q := tw_x_iconst td_168_213 (by decide)
theorem td_168_214 : decode (tw_cd 168) 214 = .ok (.bipush (-9), 2) := by decide +kernel
theorem tz_168_214 : tw_E sc d 168 214 [x0, x1, x2, x3, x4, x5, x6, x7, x8, x9, x10, x11] st g mi mr Q = tw_E sc d 168 216 [x0, x1, x2, x3, x4, x5, x6, x7, x8, x9, x10, x11] (.int (-9) :: st) g mi mr Q := tw_x_bipush td_168_214 (by decide)
theorem td_168_216 : decode (tw_cd 168) 216 = .ok (.iload 7, 2) := by decide +kernel
theorem tz_168_216 : tw_E sc d 168 216 [x0, x1, x2, x3, x4, x5, x6, some (.int v), x8, x9, x10, x11] st g mi mr Q = tw_E sc d 168 218 [x0, x1, x2, x3, x4, x5, x6, some (.int v), x8, x9, x10, x11] (.int v :: st) g mi mr Q := tw_x_iload td_168_216 rfl
theorem td_168_218 : decode (tw_cd 168) 218 = .ok (.invokevirtual 228, 3) := by decide +kernel
theorem tz_168_218 {a0 : Int32} {a1 : Int32} {a2 : Int32} : tw_E sc (d + 1) 168 218 [x0, x1, x2, x3, x4, x5, x6, x7, x8, x9, x10, x11] ([.int a2, .int a1, .int a0, .ref a]) g mi mr Q = (tw_kd g a = 10 ∧ tw_E sc d 164 0 [some (.ref a), some (.int a0), some (.int a1), some (.int a2)] [] g mi mr (tw_K sc (d + 1) 168 221 [x0, x1, x2, x3, x4, x5, x6, x7, x8, x9, x10, x11] [] Q)) := tw_x_cv (as := [.int a0, .int a1, .int a2]) (r := []) td_168_218 to_168 tc_10_228 to_164 rfl rfl rfl rfl
theorem td_168_221 : decode (tw_cd 168) 221 = .ok (.iconst 0, 1) := by decide +kernel
theorem tz_168_221 : tw_E sc d 168 221 [x0, x1, x2, x3, x4, x5, x6, x7, x8, x9, x10, x11] st g mi mr Q = tw_E sc d 168 222 [x0, x1, x2, x3, x4, x5, x6, x7, x8, x9, x10, x11] (.int 0 :: st) g mi mr Q := tw_x_iconst td_168_221 (by decide)
theorem td_168_222 : decode (tw_cd 168) 222 = .ok (.istore_n 3, 1) := by decide +kernel
theorem tz_168_222 : tw_E sc d 168 222 [x0, x1, x2, x3, x4, x5, x6, x7, x8, x9, x10, x11] (.int v :: st) g mi mr Q = tw_E sc d 168 223 [x0, x1, x2, some (.int v), x4, x5, x6, x7, x8, x9, x10, x11] st g mi mr Q := tw_x_istore_n td_168_222 tp_168 rfl
theorem td_168_223 : decode (tw_cd 168) 223 = .ok (.goto 66, 3) := by decide +kernel
theorem tz_168_223 : tw_E sc d 168 223 [x0, x1, x2, x3, x4, x5, x6, x7, x8, x9, x10, x11] st g mi mr Q = tw_E sc d 168 289 [x0, x1, x2, x3, x4, x5, x6, x7, x8, x9, x10, x11] st g mi mr Q := tw_x_goto td_168_223 (by decide)
theorem td_168_226 : decode (tw_cd 168) 226 = .ok (.iload 8, 2) := by decide +kernel
theorem tz_168_226 : tw_E sc d 168 226 [x0, x1, x2, x3, x4, x5, x6, x7, some (.int v), x9, x10, x11] st g mi mr Q = tw_E sc d 168 228 [x0, x1, x2, x3, x4, x5, x6, x7, some (.int v), x9, x10, x11] (.int v :: st) g mi mr Q := tw_x_iload td_168_226 rfl
theorem td_168_228 : decode (tw_cd 168) 228 = .ok (.iload 9, 2) := by decide +kernel
theorem tz_168_228 : tw_E sc d 168 228 [x0, x1, x2, x3, x4, x5, x6, x7, x8, some (.int v), x10, x11] st g mi mr Q = tw_E sc d 168 230 [x0, x1, x2, x3, x4, x5, x6, x7, x8, some (.int v), x10, x11] (.int v :: st) g mi mr Q := tw_x_iload td_168_228 rfl
theorem td_168_230 : decode (tw_cd 168) 230 = .ok (.if_icmp .le 9, 3) := by decide +kernel
theorem tz_168_230 : tw_E sc d 168 230 [x0, x1, x2, x3, x4, x5, x6, x7, x8, x9, x10, x11] (.int w :: .int v :: st) g mi mr Q = if v ≤ w then tw_E sc d 168 239 [x0, x1, x2, x3, x4, x5, x6, x7, x8, x9, x10, x11] st g mi mr Q else tw_E sc d 168 233 [x0, x1, x2, x3, x4, x5, x6, x7, x8, x9, x10, x11] st g mi mr Q := tw_x_ic_le td_168_230 (by decide)
theorem td_168_233 : decode (tw_cd 168) 233 = .ok (.iload_n 3, 1) := by decide +kernel
theorem tz_168_233 : tw_E sc d 168 233 [x0, x1, x2, some (.int v), x4, x5, x6, x7, x8, x9, x10, x11] st g mi mr Q = tw_E sc d 168 234 [x0, x1, x2, some (.int v), x4, x5, x6, x7, x8, x9, x10, x11] (.int v :: st) g mi mr Q := tw_x_iload_n td_168_233 rfl
theorem td_168_234 : decode (tw_cd 168) 234 = .ok (.istore 4, 2) := by decide +kernel
theorem tz_168_234 : tw_E sc d 168 234 [x0, x1, x2, x3, x4, x5, x6, x7, x8, x9, x10, x11] (.int v :: st) g mi mr Q = tw_E sc d 168 236 [x0, x1, x2, x3, some (.int v), x5, x6, x7, x8, x9, x10, x11] st g mi mr Q := tw_x_istore td_168_234 tp_168 rfl
theorem td_168_236 : decode (tw_cd 168) 236 = .ok (.goto 53, 3) := by decide +kernel
theorem tz_168_236 : tw_E sc d 168 236 [x0, x1, x2, x3, x4, x5, x6, x7, x8, x9, x10, x11] st g mi mr Q = tw_E sc d 168 289 [x0, x1, x2, x3, x4, x5, x6, x7, x8, x9, x10, x11] st g mi mr Q := tw_x_goto td_168_236 (by decide)
theorem td_168_239 : decode (tw_cd 168) 239 = .ok (.iload 8, 2) := by decide +kernel
theorem tz_168_239 : tw_E sc d 168 239 [x0, x1, x2, x3, x4, x5, x6, x7, some (.int v), x9, x10, x11] st g mi mr Q = tw_E sc d 168 241 [x0, x1, x2, x3, x4, x5, x6, x7, some (.int v), x9, x10, x11] (.int v :: st) g mi mr Q := tw_x_iload td_168_239 rfl
theorem td_168_241 : decode (tw_cd 168) 241 = .ok (.iload 9, 2) := by decide +kernel
theorem tz_168_241 : tw_E sc d 168 241 [x0, x1, x2, x3, x4, x5, x6, x7, x8, some (.int v), x10, x11] st g mi mr Q = tw_E sc d 168 243 [x0, x1, x2, x3, x4, x5, x6, x7, x8, some (.int v), x10, x11] (.int v :: st) g mi mr Q := tw_x_iload td_168_241 rfl
theorem td_168_243 : decode (tw_cd 168) 243 = .ok (.if_icmp .ge 46, 3) := by decide +kernel
theorem tz_168_243 : tw_E sc d 168 243 [x0, x1, x2, x3, x4, x5, x6, x7, x8, x9, x10, x11] (.int w :: .int v :: st) g mi mr Q = if w ≤ v then tw_E sc d 168 289 [x0, x1, x2, x3, x4, x5, x6, x7, x8, x9, x10, x11] st g mi mr Q else tw_E sc d 168 246 [x0, x1, x2, x3, x4, x5, x6, x7, x8, x9, x10, x11] st g mi mr Q := tw_x_ic_ge td_168_243 (by decide)
theorem td_168_246 : decode (tw_cd 168) 246 = .ok (.iload_n 3, 1) := by decide +kernel
theorem tz_168_246 : tw_E sc d 168 246 [x0, x1, x2, some (.int v), x4, x5, x6, x7, x8, x9, x10, x11] st g mi mr Q = tw_E sc d 168 247 [x0, x1, x2, some (.int v), x4, x5, x6, x7, x8, x9, x10, x11] (.int v :: st) g mi mr Q := tw_x_iload_n td_168_246 rfl
theorem td_168_247 : decode (tw_cd 168) 247 = .ok (.ifCond .eq 42, 3) := by decide +kernel
theorem tz_168_247 : tw_E sc d 168 247 [x0, x1, x2, x3, x4, x5, x6, x7, x8, x9, x10, x11] (.int v :: st) g mi mr Q = if v = 0 then tw_E sc d 168 289 [x0, x1, x2, x3, x4, x5, x6, x7, x8, x9, x10, x11] st g mi mr Q else tw_E sc d 168 250 [x0, x1, x2, x3, x4, x5, x6, x7, x8, x9, x10, x11] st g mi mr Q := tw_x_if_eq td_168_247 (by decide)
theorem td_168_250 : decode (tw_cd 168) 250 = .ok (.iload 4, 2) := by decide +kernel
theorem tz_168_250 : tw_E sc d 168 250 [x0, x1, x2, x3, some (.int v), x5, x6, x7, x8, x9, x10, x11] st g mi mr Q = tw_E sc d 168 252 [x0, x1, x2, x3, some (.int v), x5, x6, x7, x8, x9, x10, x11] (.int v :: st) g mi mr Q := tw_x_iload td_168_250 rfl
theorem td_168_252 : decode (tw_cd 168) 252 = .ok (.ifCond .eq 37, 3) := by decide +kernel
theorem tz_168_252 : tw_E sc d 168 252 [x0, x1, x2, x3, x4, x5, x6, x7, x8, x9, x10, x11] (.int v :: st) g mi mr Q = if v = 0 then tw_E sc d 168 289 [x0, x1, x2, x3, x4, x5, x6, x7, x8, x9, x10, x11] st g mi mr Q else tw_E sc d 168 255 [x0, x1, x2, x3, x4, x5, x6, x7, x8, x9, x10, x11] st g mi mr Q := tw_x_if_eq td_168_252 (by decide)
theorem td_168_255 : decode (tw_cd 168) 255 = .ok (.iconst 2, 1) := by decide +kernel
theorem tz_168_255 : tw_E sc d 168 255 [x0, x1, x2, x3, x4, x5, x6, x7, x8, x9, x10, x11] st g mi mr Q = tw_E sc d 168 256 [x0, x1, x2, x3, x4, x5, x6, x7, x8, x9, x10, x11] (.int 2 :: st) g mi mr Q := tw_x_iconst td_168_255 (by decide)
theorem td_168_256 : decode (tw_cd 168) 256 = .ok (.iload 6, 2) := by decide +kernel
theorem tz_168_256 : tw_E sc d 168 256 [x0, x1, x2, x3, x4, x5, some (.int v), x7, x8, x9, x10, x11] st g mi mr Q = tw_E sc d 168 258 [x0, x1, x2, x3, x4, x5, some (.int v), x7, x8, x9, x10, x11] (.int v :: st) g mi mr Q := tw_x_iload td_168_256 rfl
theorem td_168_258 : decode (tw_cd 168) 258 = .ok (.imul, 1) := by decide +kernel
theorem tz_168_258 : tw_E sc d 168 258 [x0, x1, x2, x3, x4, x5, x6, x7, x8, x9, x10, x11] (.int w :: .int v :: st) g mi mr Q = tw_E sc d 168 259 [x0, x1, x2, x3, x4, x5, x6, x7, x8, x9, x10, x11] (.int (v * w) :: st) g mi mr Q := tw_x_imul td_168_258
theorem td_168_259 : decode (tw_cd 168) 259 = .ok (.iload 11, 2) := by decide +kernel
theorem tz_168_259 : tw_E sc d 168 259 [x0, x1, x2, x3, x4, x5, x6, x7, x8, x9, x10, some (.int v)] st g mi mr Q = tw_E sc d 168 261 [x0, x1, x2, x3, x4, x5, x6, x7, x8, x9, x10, some (.int v)] (.int v :: st) g mi mr Q := tw_x_iload td_168_259 rfl
theorem td_168_261 : decode (tw_cd 168) 261 = .ok (.iadd, 1) := by decide +kernel
theorem tz_168_261 : tw_E sc d 168 261 [x0, x1, x2, x3, x4, x5, x6, x7, x8, x9, x10, x11] (.int w :: .int v :: st) g mi mr Q = tw_E sc d 168 262 [x0, x1, x2, x3, x4, x5, x6, x7, x8, x9, x10, x11] (.int (v + w) :: st) g mi mr Q := tw_x_iadd td_168_261
theorem td_168_262 : decode (tw_cd 168) 262 = .ok (.istore 6, 2) := by decide +kernel
theorem tz_168_262 : tw_E sc d 168 262 [x0, x1, x2, x3, x4, x5, x6, x7, x8, x9, x10, x11] (.int v :: st) g mi mr Q = tw_E sc d 168 264 [x0, x1, x2, x3, x4, x5, some (.int v), x7, x8, x9, x10, x11] st g mi mr Q := tw_x_istore td_168_262 tp_168 rfl
theorem td_168_264 : decode (tw_cd 168) 264 = .ok (.iinc 5 1, 3) := by decide +kernel
theorem tz_168_264 : tw_E sc d 168 264 [x0, x1, x2, x3, x4, some (.int v), x6, x7, x8, x9, x10, x11] st g mi mr Q = tw_E sc d 168 267 [x0, x1, x2, x3, x4, some (.int (v + 1)), x6, x7, x8, x9, x10, x11] st g mi mr Q := tw_x_iinc td_168_264 rfl (by first | rfl | (exact congrArg (v + ·) (by decide))) tp_168 rfl
theorem td_168_267 : decode (tw_cd 168) 267 = .ok (.iload 5, 2) := by decide +kernel
theorem tz_168_267 : tw_E sc d 168 267 [x0, x1, x2, x3, x4, some (.int v), x6, x7, x8, x9, x10, x11] st g mi mr Q = tw_E sc d 168 269 [x0, x1, x2, x3, x4, some (.int v), x6, x7, x8, x9, x10, x11] (.int v :: st) g mi mr Q := tw_x_iload td_168_267 rfl
theorem td_168_269 : decode (tw_cd 168) 269 = .ok (.bipush 8, 2) := by decide +kernel
theorem tz_168_269 : tw_E sc d 168 269 [x0, x1, x2, x3, x4, x5, x6, x7, x8, x9, x10, x11] st g mi mr Q = tw_E sc d 168 271 [x0, x1, x2, x3, x4, x5, x6, x7, x8, x9, x10, x11] (.int 8 :: st) g mi mr Q := tw_x_bipush td_168_269 (by decide)
theorem td_168_271 : decode (tw_cd 168) 271 = .ok (.if_icmp .ne 18, 3) := by decide +kernel
theorem tz_168_271 : tw_E sc d 168 271 [x0, x1, x2, x3, x4, x5, x6, x7, x8, x9, x10, x11] (.int w :: .int v :: st) g mi mr Q = if ¬ v = w then tw_E sc d 168 289 [x0, x1, x2, x3, x4, x5, x6, x7, x8, x9, x10, x11] st g mi mr Q else tw_E sc d 168 274 [x0, x1, x2, x3, x4, x5, x6, x7, x8, x9, x10, x11] st g mi mr Q := tw_x_ic_ne td_168_271 (by decide)
theorem td_168_274 : decode (tw_cd 168) 274 = .ok (.aload_n 0, 1) := by decide +kernel
theorem tz_168_274 : tw_E sc d 168 274 [some (.ref a), x1, x2, x3, x4, x5, x6, x7, x8, x9, x10, x11] st g mi mr Q = tw_E sc d 168 275 [some (.ref a), x1, x2, x3, x4, x5, x6, x7, x8, x9, x10, x11] (.ref a :: st) g mi mr Q := tw_x_aload_n td_168_274 rfl
theorem td_168_275 : decode (tw_cd 168) 275 = .ok (.iconst 0, 1) := by decide +kernel
theorem tz_168_275 : tw_E sc d 168 275 [x0, x1, x2, x3, x4, x5, x6, x7, x8, x9, x10, x11] st g mi mr Q = tw_E sc d 168 276 [x0, x1, x2, x3, x4, x5, x6, x7, x8, x9, x10, x11] (.int 0 :: st) g mi mr Q := tw_x_iconst td_168_275 (by decide)
theorem td_168_276 : decode (tw_cd 168) 276 = .ok (.iload 6, 2) := by decide +kernel
theorem tz_168_276 : tw_E sc d 168 276 [x0, x1, x2, x3, x4, x5, some (.int v), x7, x8, x9, x10, x11] st g mi mr Q = tw_E sc d 168 278 [x0, x1, x2, x3, x4, x5, some (.int v), x7, x8, x9, x10, x11] (.int v :: st) g mi mr Q := tw_x_iload td_168_276 rfl
theorem td_168_278 : decode (tw_cd 168) 278 = .ok (.iload 7, 2) := by decide +kernel
theorem tz_168_278 : tw_E sc d 168 278 [x0, x1, x2, x3, x4, x5, x6, some (.int v), x8, x9, x10, x11] st g mi mr Q = tw_E sc d 168 280 [x0, x1, x2, x3, x4, x5, x6, some (.int v), x8, x9, x10, x11] (.int v :: st) g mi mr Q := tw_x_iload td_168_278 rfl
theorem td_168_280 : decode (tw_cd 168) 280 = .ok (.invokevirtual 228, 3) := by decide +kernel
theorem tz_168_280 {a0 : Int32} {a1 : Int32} {a2 : Int32} : tw_E sc (d + 1) 168 280 [x0, x1, x2, x3, x4, x5, x6, x7, x8, x9, x10, x11] ([.int a2, .int a1, .int a0, .ref a]) g mi mr Q = (tw_kd g a = 10 ∧ tw_E sc d 164 0 [some (.ref a), some (.int a0), some (.int a1), some (.int a2)] [] g mi mr (tw_K sc (d + 1) 168 283 [x0, x1, x2, x3, x4, x5, x6, x7, x8, x9, x10, x11] [] Q)) := tw_x_cv (as := [.int a0, .int a1, .int a2]) (r := []) td_168_280 to_168 tc_10_228 to_164 rfl rfl rfl rfl
theorem td_168_283 : decode (tw_cd 168) 283 = .ok (.iconst 0, 1) := by decide +kernel
theorem tz_168_283 : tw_E sc d 168 283 [x0, x1, x2, x3, x4, x5, x6, x7, x8, x9, x10, x11] st g mi mr Q = tw_E sc d 168 284 [x0, x1, x2, x3, x4, x5, x6, x7, x8, x9, x10, x11] (.int 0 :: st) g mi mr Q := tw_x_iconst td_168_283 (by decide)
theorem td_168_284 : decode (tw_cd 168) 284 = .ok (.istore 5, 2) := by decide +kernel
theorem tz_168_284 : tw_E sc d 168 284 [x0, x1, x2, x3, x4, x5, x6, x7, x8, x9, x10, x11] (.int v :: st) g mi mr Q = tw_E sc d 168 286 [x0, x1, x2, x3, x4, some (.int v), x6, x7, x8, x9, x10, x11] st g mi mr Q := tw_x_istore td_168_284 tp_168 rfl
theorem td_168_286 : decode (tw_cd 168) 286 = .ok (.iconst 0, 1) := by decide +kernel
theorem tz_168_286 : tw_E sc d 168 286 [x0, x1, x2, x3, x4, x5, x6, x7, x8, x9, x10, x11] st g mi mr Q = tw_E sc d 168 287 [x0, x1, x2, x3, x4, x5, x6, x7, x8, x9, x10, x11] (.int 0 :: st) g mi mr Q := tw_x_iconst td_168_286 (by decide)
theorem td_168_287 : decode (tw_cd 168) 287 = .ok (.istore 6, 2) := by decide +kernel
theorem tz_168_287 : tw_E sc d 168 287 [x0, x1, x2, x3, x4, x5, x6, x7, x8, x9, x10, x11] (.int v :: st) g mi mr Q = tw_E sc d 168 289 [x0, x1, x2, x3, x4, x5, some (.int v), x7, x8, x9, x10, x11] st g mi mr Q := tw_x_istore td_168_287 tp_168 rfl
theorem td_168_289 : decode (tw_cd 168) 289 = .ok (.iinc 7 1, 3) := by decide +kernel
theorem tz_168_289 : tw_E sc d 168 289 [x0, x1, x2, x3, x4, x5, x6, some (.int v), x8, x9, x10, x11] st g mi mr Q = tw_E sc d 168 292 [x0, x1, x2, x3, x4, x5, x6, some (.int (v + 1)), x8, x9, x10, x11] st g mi mr Q := tw_x_iinc td_168_289 rfl (by first | rfl | (exact congrArg (v + ·) (by decide))) tp_168 rfl
theorem td_168_292 : decode (tw_cd 168) 292 = .ok (.goto (-234), 3) := by decide +kernel
theorem tz_168_292 : tw_E sc d 168 292 [x0, x1, x2, x3, x4, x5, x6, x7, x8, x9, x10, x11] st g mi mr Q = tw_E sc d 168 58 [x0, x1, x2, x3, x4, x5, x6, x7, x8, x9, x10, x11] st g mi mr Q := tw_x_goto td_168_292 (by decide)
theorem td_168_295 : decode (tw_cd 168) 295 = .ok (.aload_n 0, 1) := by decide +kernel
theorem tz_168_295 : tw_E sc d 168 295 [some (.ref a), x1, x2, x3, x4, x5, x6, x7, x8, x9, x10, x11] st g mi mr Q = tw_E sc d 168 296 [some (.ref a), x1, x2, x3, x4, x5, x6, x7, x8, x9, x10, x11] (.ref a :: st) g mi mr Q := tw_x_aload_n td_168_295 rfl
theorem td_168_296 : decode (tw_cd 168) 296 = .ok (.getfield 225, 3) := by decide +kernel
theorem tz_168_296 : tw_E sc d 168 296 [x0, x1, x2, x3, x4, x5, x6, x7, x8, x9, x10, x11] (.ref a :: st) g mi mr Q = (tw_kd g a = 10 ∧ tw_E sc d 168 299 [x0, x1, x2, x3, x4, x5, x6, x7, x8, x9, x10, x11] (.int (mi a 25) :: st) g mi mr Q) := tw_x_geti td_168_296 to_168 tf_10_225 (trf_10_25)
theorem td_168_299 : decode (tw_cd 168) 299 = .ok (.ireturn, 1) := by decide +kernel
theorem tz_168_299 : tw_E sc d 168 299 [x0, x1, x2, x3, x4, x5, x6, x7, x8, x9, x10, x11] ([.int v]) g mi mr Q = Q (some (.int v)) g mi mr := tw_x_iret td_168_299 tr_168
end tz_168
-- 169: Mo_mark2
section tz_169
variable {sc : Nat × (Nat → Int32)} {d : Nat} {x0 x1 x2 : Option Value} {st : List Value} {g : tw_G} {mi : tw_I} {mr : tw_Q} {Q : Option Value → tw_G → tw_I → tw_Q → Prop} {v w u : Int32} {a b : Nat} {j h : Int64} {s1 s2 s3 s4 : Value}
theorem td_169_0 : decode (tw_cd 169) 0 = .ok (.aload_n 0, 1) := by decide +kernel
theorem tz_169_0 : tw_E sc d 169 0 [some (.ref a), x1, x2] st g mi mr Q = tw_E sc d 169 1 [some (.ref a), x1, x2] (.ref a :: st) g mi mr Q := tw_x_aload_n td_169_0 rfl
theorem td_169_1 : decode (tw_cd 169) 1 = .ok (.iconst 0, 1) := by decide +kernel
theorem tz_169_1 : tw_E sc d 169 1 [x0, x1, x2] st g mi mr Q = tw_E sc d 169 2 [x0, x1, x2] (.int 0 :: st) g mi mr Q := tw_x_iconst td_169_1 (by decide)
theorem td_169_2 : decode (tw_cd 169) 2 = .ok (.putfield 83, 3) := by decide +kernel
theorem tz_169_2 : tw_E sc d 169 2 [x0, x1, x2] (.int v :: .ref a :: st) g mi mr Q = (tw_kd g a = 10 ∧ tw_E sc d 169 5 [x0, x1, x2] st g (tw_st mi a (tw_st (mi a) 0 v)) mr Q) := tw_x_puti td_169_2 to_169 tf_10_83 rfl rfl
theorem td_169_5 : decode (tw_cd 169) 5 = .ok (.iload_n 1, 1) := by decide +kernel
theorem tz_169_5 : tw_E sc d 169 5 [x0, some (.int v), x2] st g mi mr Q = tw_E sc d 169 6 [x0, some (.int v), x2] (.int v :: st) g mi mr Q := tw_x_iload_n td_169_5 rfl
theorem td_169_6 : decode (tw_cd 169) 6 = .ok (.i2l, 1) := by decide +kernel
theorem tz_169_6 : tw_E sc d 169 6 [x0, x1, x2] (.int v :: st) g mi mr Q = tw_E sc d 169 7 [x0, x1, x2] (.long v.toInt64 :: st) g mi mr Q := tw_x_i2l td_169_6
theorem td_169_7 : decode (tw_cd 169) 7 = .ok (.lconst 0, 1) := by decide +kernel
theorem tz_169_7 : tw_E sc d 169 7 [x0, x1, x2] st g mi mr Q = tw_E sc d 169 8 [x0, x1, x2] (.long 0 :: st) g mi mr Q := tw_x_lconst td_169_7 (by decide)
theorem td_169_8 : decode (tw_cd 169) 8 = .ok (.aload_n 0, 1) := by decide +kernel
theorem tz_169_8 : tw_E sc d 169 8 [some (.ref a), x1, x2] st g mi mr Q = tw_E sc d 169 9 [some (.ref a), x1, x2] (.ref a :: st) g mi mr Q := tw_x_aload_n td_169_8 rfl
theorem td_169_9 : decode (tw_cd 169) 9 = .ok (.getfield 225, 3) := by decide +kernel
theorem tz_169_9 : tw_E sc d 169 9 [x0, x1, x2] (.ref a :: st) g mi mr Q = (tw_kd g a = 10 ∧ tw_E sc d 169 12 [x0, x1, x2] (.int (mi a 25) :: st) g mi mr Q) := tw_x_geti td_169_9 to_169 tf_10_225 (trf_10_25)
theorem td_169_12 : decode (tw_cd 169) 12 = .ok (.iconst 1, 1) := by decide +kernel
theorem tz_169_12 : tw_E sc d 169 12 [x0, x1, x2] st g mi mr Q = tw_E sc d 169 13 [x0, x1, x2] (.int 1 :: st) g mi mr Q := tw_x_iconst td_169_12 (by decide)
theorem td_169_13 : decode (tw_cd 169) 13 = .ok (.isub, 1) := by decide +kernel
theorem tz_169_13 : tw_E sc d 169 13 [x0, x1, x2] (.int w :: .int v :: st) g mi mr Q = tw_E sc d 169 14 [x0, x1, x2] (.int (v - w) :: st) g mi mr Q := tw_x_isub td_169_13
theorem td_169_14 : decode (tw_cd 169) 14 = .ok (.i2l, 1) := by decide +kernel
theorem tz_169_14 : tw_E sc d 169 14 [x0, x1, x2] (.int v :: st) g mi mr Q = tw_E sc d 169 15 [x0, x1, x2] (.long v.toInt64 :: st) g mi mr Q := tw_x_i2l td_169_14
theorem td_169_15 : decode (tw_cd 169) 15 = .ok (.invokestatic 96, 3) := by decide +kernel
theorem tz_169_15 {a0 : Int64} {a1 : Int64} {a2 : Int64} : tw_E sc (d + 1) 169 15 [x0, x1, x2] ([.long a2, .long a1, .long a0]) g mi mr Q = tw_E sc d 126 0 [some (.long a0), none, some (.long a1), none, some (.long a2), none] [] g mi mr (tw_K sc (d + 1) 169 18 [x0, x1, x2] [] Q) := tw_x_cs (as := [.long a0, .long a1, .long a2]) (r := []) td_169_15 to_169 tmn_10_96 tc_10_96 rfl rfl rfl rfl rfl
theorem td_169_18 : decode (tw_cd 169) 18 = .ok (.ifCond .ne 5, 3) := by decide +kernel
theorem tz_169_18 : tw_E sc d 169 18 [x0, x1, x2] (.int v :: st) g mi mr Q = if ¬ v = 0 then tw_E sc d 169 23 [x0, x1, x2] st g mi mr Q else tw_E sc d 169 21 [x0, x1, x2] st g mi mr Q := tw_x_if_ne td_169_18 (by decide)
theorem td_169_21 : decode (tw_cd 169) 21 = .ok (.iconst (-1), 1) := by decide +kernel
theorem tz_169_21 : tw_E sc d 169 21 [x0, x1, x2] st g mi mr Q = tw_E sc d 169 22 [x0, x1, x2] (.int (-1) :: st) g mi mr Q := tw_x_iconst td_169_21 (by decide)
theorem td_169_22 : decode (tw_cd 169) 22 = .ok (.ireturn, 1) := by decide +kernel
theorem tz_169_22 : tw_E sc d 169 22 [x0, x1, x2] ([.int v]) g mi mr Q = Q (some (.int v)) g mi mr := tw_x_iret td_169_22 tr_169
theorem td_169_23 : decode (tw_cd 169) 23 = .ok (.iload_n 2, 1) := by decide +kernel
theorem tz_169_23 : tw_E sc d 169 23 [x0, x1, some (.int v)] st g mi mr Q = tw_E sc d 169 24 [x0, x1, some (.int v)] (.int v :: st) g mi mr Q := tw_x_iload_n td_169_23 rfl
theorem td_169_24 : decode (tw_cd 169) 24 = .ok (.ifCond .ne 12, 3) := by decide +kernel
theorem tz_169_24 : tw_E sc d 169 24 [x0, x1, x2] (.int v :: st) g mi mr Q = if ¬ v = 0 then tw_E sc d 169 36 [x0, x1, x2] st g mi mr Q else tw_E sc d 169 27 [x0, x1, x2] st g mi mr Q := tw_x_if_ne td_169_24 (by decide)
theorem td_169_27 : decode (tw_cd 169) 27 = .ok (.aload_n 0, 1) := by decide +kernel
theorem tz_169_27 : tw_E sc d 169 27 [some (.ref a), x1, x2] st g mi mr Q = tw_E sc d 169 28 [some (.ref a), x1, x2] (.ref a :: st) g mi mr Q := tw_x_aload_n td_169_27 rfl
theorem td_169_28 : decode (tw_cd 169) 28 = .ok (.getfield 62, 3) := by decide +kernel
theorem tz_169_28 : tw_E sc d 169 28 [x0, x1, x2] (.ref a :: st) g mi mr Q = (tw_kd g a = 10 ∧ tw_E sc d 169 31 [x0, x1, x2] (va_rf (mr a 26) :: st) g mi mr Q) := tw_x_getr td_169_28 to_169 tf_10_62 (trf_10_26)
theorem td_169_31 : decode (tw_cd 169) 31 = .ok (.iload_n 1, 1) := by decide +kernel
theorem tz_169_31 : tw_E sc d 169 31 [x0, some (.int v), x2] st g mi mr Q = tw_E sc d 169 32 [x0, some (.int v), x2] (.int v :: st) g mi mr Q := tw_x_iload_n td_169_31 rfl
theorem td_169_32 : decode (tw_cd 169) 32 = .ok (.iaload, 1) := by decide +kernel
theorem tz_169_32 : tw_E sc d 169 32 [x0, x1, x2] (.int v :: .ref a :: st) g mi mr Q = ((tw_kd g a = 20 ∧ vp_in v (tw_ln g a)) ∧ tw_E sc d 169 33 [x0, x1, x2] (.int (mi a v.toNatClampNeg) :: st) g mi mr Q) := tw_x_iald td_169_32
theorem td_169_33 : decode (tw_cd 169) 33 = .ok (.goto 33, 3) := by decide +kernel
theorem tz_169_33 : tw_E sc d 169 33 [x0, x1, x2] st g mi mr Q = tw_E sc d 169 66 [x0, x1, x2] st g mi mr Q := tw_x_goto td_169_33 (by decide)
theorem td_169_36 : decode (tw_cd 169) 36 = .ok (.iload_n 2, 1) := by decide +kernel
theorem tz_169_36 : tw_E sc d 169 36 [x0, x1, some (.int v)] st g mi mr Q = tw_E sc d 169 37 [x0, x1, some (.int v)] (.int v :: st) g mi mr Q := tw_x_iload_n td_169_36 rfl
theorem td_169_37 : decode (tw_cd 169) 37 = .ok (.iconst 1, 1) := by decide +kernel
theorem tz_169_37 : tw_E sc d 169 37 [x0, x1, x2] st g mi mr Q = tw_E sc d 169 38 [x0, x1, x2] (.int 1 :: st) g mi mr Q := tw_x_iconst td_169_37 (by decide)
theorem td_169_38 : decode (tw_cd 169) 38 = .ok (.if_icmp .ne 12, 3) := by decide +kernel
theorem tz_169_38 : tw_E sc d 169 38 [x0, x1, x2] (.int w :: .int v :: st) g mi mr Q = if ¬ v = w then tw_E sc d 169 50 [x0, x1, x2] st g mi mr Q else tw_E sc d 169 41 [x0, x1, x2] st g mi mr Q := tw_x_ic_ne td_169_38 (by decide)
theorem td_169_41 : decode (tw_cd 169) 41 = .ok (.aload_n 0, 1) := by decide +kernel
theorem tz_169_41 : tw_E sc d 169 41 [some (.ref a), x1, x2] st g mi mr Q = tw_E sc d 169 42 [some (.ref a), x1, x2] (.ref a :: st) g mi mr Q := tw_x_aload_n td_169_41 rfl
theorem td_169_42 : decode (tw_cd 169) 42 = .ok (.getfield 65, 3) := by decide +kernel
theorem tz_169_42 : tw_E sc d 169 42 [x0, x1, x2] (.ref a :: st) g mi mr Q = (tw_kd g a = 10 ∧ tw_E sc d 169 45 [x0, x1, x2] (va_rf (mr a 27) :: st) g mi mr Q) := tw_x_getr td_169_42 to_169 tf_10_65 (trf_10_27)
theorem td_169_45 : decode (tw_cd 169) 45 = .ok (.iload_n 1, 1) := by decide +kernel
theorem tz_169_45 : tw_E sc d 169 45 [x0, some (.int v), x2] st g mi mr Q = tw_E sc d 169 46 [x0, some (.int v), x2] (.int v :: st) g mi mr Q := tw_x_iload_n td_169_45 rfl
theorem td_169_46 : decode (tw_cd 169) 46 = .ok (.iaload, 1) := by decide +kernel
theorem tz_169_46 : tw_E sc d 169 46 [x0, x1, x2] (.int v :: .ref a :: st) g mi mr Q = ((tw_kd g a = 20 ∧ vp_in v (tw_ln g a)) ∧ tw_E sc d 169 47 [x0, x1, x2] (.int (mi a v.toNatClampNeg) :: st) g mi mr Q) := tw_x_iald td_169_46
theorem td_169_47 : decode (tw_cd 169) 47 = .ok (.goto 19, 3) := by decide +kernel
theorem tz_169_47 : tw_E sc d 169 47 [x0, x1, x2] st g mi mr Q = tw_E sc d 169 66 [x0, x1, x2] st g mi mr Q := tw_x_goto td_169_47 (by decide)
theorem td_169_50 : decode (tw_cd 169) 50 = .ok (.iload_n 2, 1) := by decide +kernel
theorem tz_169_50 : tw_E sc d 169 50 [x0, x1, some (.int v)] st g mi mr Q = tw_E sc d 169 51 [x0, x1, some (.int v)] (.int v :: st) g mi mr Q := tw_x_iload_n td_169_50 rfl
theorem td_169_51 : decode (tw_cd 169) 51 = .ok (.iconst 2, 1) := by decide +kernel
theorem tz_169_51 : tw_E sc d 169 51 [x0, x1, x2] st g mi mr Q = tw_E sc d 169 52 [x0, x1, x2] (.int 2 :: st) g mi mr Q := tw_x_iconst td_169_51 (by decide)
theorem td_169_52 : decode (tw_cd 169) 52 = .ok (.if_icmp .ne 12, 3) := by decide +kernel
theorem tz_169_52 : tw_E sc d 169 52 [x0, x1, x2] (.int w :: .int v :: st) g mi mr Q = if ¬ v = w then tw_E sc d 169 64 [x0, x1, x2] st g mi mr Q else tw_E sc d 169 55 [x0, x1, x2] st g mi mr Q := tw_x_ic_ne td_169_52 (by decide)
theorem td_169_55 : decode (tw_cd 169) 55 = .ok (.aload_n 0, 1) := by decide +kernel
theorem tz_169_55 : tw_E sc d 169 55 [some (.ref a), x1, x2] st g mi mr Q = tw_E sc d 169 56 [some (.ref a), x1, x2] (.ref a :: st) g mi mr Q := tw_x_aload_n td_169_55 rfl
theorem td_169_56 : decode (tw_cd 169) 56 = .ok (.getfield 68, 3) := by decide +kernel
theorem tz_169_56 : tw_E sc d 169 56 [x0, x1, x2] (.ref a :: st) g mi mr Q = (tw_kd g a = 10 ∧ tw_E sc d 169 59 [x0, x1, x2] (va_rf (mr a 28) :: st) g mi mr Q) := tw_x_getr td_169_56 to_169 tf_10_68 (trf_10_28)
theorem td_169_59 : decode (tw_cd 169) 59 = .ok (.iload_n 1, 1) := by decide +kernel
theorem tz_169_59 : tw_E sc d 169 59 [x0, some (.int v), x2] st g mi mr Q = tw_E sc d 169 60 [x0, some (.int v), x2] (.int v :: st) g mi mr Q := tw_x_iload_n td_169_59 rfl
theorem td_169_60 : decode (tw_cd 169) 60 = .ok (.iaload, 1) := by decide +kernel
theorem tz_169_60 : tw_E sc d 169 60 [x0, x1, x2] (.int v :: .ref a :: st) g mi mr Q = ((tw_kd g a = 20 ∧ vp_in v (tw_ln g a)) ∧ tw_E sc d 169 61 [x0, x1, x2] (.int (mi a v.toNatClampNeg) :: st) g mi mr Q) := tw_x_iald td_169_60
theorem td_169_61 : decode (tw_cd 169) 61 = .ok (.goto 5, 3) := by decide +kernel
theorem tz_169_61 : tw_E sc d 169 61 [x0, x1, x2] st g mi mr Q = tw_E sc d 169 66 [x0, x1, x2] st g mi mr Q := tw_x_goto td_169_61 (by decide)
theorem td_169_64 : decode (tw_cd 169) 64 = .ok (.bipush (-2), 2) := by decide +kernel
theorem tz_169_64 : tw_E sc d 169 64 [x0, x1, x2] st g mi mr Q = tw_E sc d 169 66 [x0, x1, x2] (.int (-2) :: st) g mi mr Q := tw_x_bipush td_169_64 (by decide)
theorem td_169_66 : decode (tw_cd 169) 66 = .ok (.ireturn, 1) := by decide +kernel
theorem tz_169_66 : tw_E sc d 169 66 [x0, x1, x2] ([.int v]) g mi mr Q = Q (some (.int v)) g mi mr := tw_x_iret td_169_66 tr_169
end tz_169
-- 170: Mo_others
section tz_170
variable {sc : Nat × (Nat → Int32)} {d : Nat} {x0 x1 : Option Value} {st : List Value} {g : tw_G} {mi : tw_I} {mr : tw_Q} {Q : Option Value → tw_G → tw_I → tw_Q → Prop} {v w u : Int32} {a b : Nat} {j h : Int64} {s1 s2 s3 s4 : Value}
theorem td_170_0 : decode (tw_cd 170) 0 = .ok (.aload_n 0, 1) := by decide +kernel
theorem tz_170_0 : tw_E sc d 170 0 [some (.ref a), x1] st g mi mr Q = tw_E sc d 170 1 [some (.ref a), x1] (.ref a :: st) g mi mr Q := tw_x_aload_n td_170_0 rfl
theorem td_170_1 : decode (tw_cd 170) 1 = .ok (.getfield 185, 3) := by decide +kernel
theorem tz_170_1 : tw_E sc d 170 1 [x0, x1] (.ref a :: st) g mi mr Q = (tw_kd g a = 10 ∧ tw_E sc d 170 4 [x0, x1] (.int (mi a 20) :: st) g mi mr Q) := tw_x_geti td_170_1 to_170 tf_10_185 (trf_10_20)
theorem td_170_4 : decode (tw_cd 170) 4 = .ok (.ifCond .ne 7, 3) := by decide +kernel
theorem tz_170_4 : tw_E sc d 170 4 [x0, x1] (.int v :: st) g mi mr Q = if ¬ v = 0 then tw_E sc d 170 11 [x0, x1] st g mi mr Q else tw_E sc d 170 7 [x0, x1] st g mi mr Q := tw_x_if_ne td_170_4 (by decide)
theorem td_170_7 : decode (tw_cd 170) 7 = .ok (.iconst 0, 1) := by decide +kernel
theorem tz_170_7 : tw_E sc d 170 7 [x0, x1] st g mi mr Q = tw_E sc d 170 8 [x0, x1] (.int 0 :: st) g mi mr Q := tw_x_iconst td_170_7 (by decide)
theorem td_170_8 : decode (tw_cd 170) 8 = .ok (.goto 18, 3) := by decide +kernel
theorem tz_170_8 : tw_E sc d 170 8 [x0, x1] st g mi mr Q = tw_E sc d 170 26 [x0, x1] st g mi mr Q := tw_x_goto td_170_8 (by decide)
theorem td_170_11 : decode (tw_cd 170) 11 = .ok (.aload_n 0, 1) := by decide +kernel
theorem tz_170_11 : tw_E sc d 170 11 [some (.ref a), x1] st g mi mr Q = tw_E sc d 170 12 [some (.ref a), x1] (.ref a :: st) g mi mr Q := tw_x_aload_n td_170_11 rfl
theorem td_170_12 : decode (tw_cd 170) 12 = .ok (.getfield 53, 3) := by decide +kernel
theorem tz_170_12 : tw_E sc d 170 12 [x0, x1] (.ref a :: st) g mi mr Q = (tw_kd g a = 10 ∧ tw_E sc d 170 15 [x0, x1] (va_rf (mr a 21) :: st) g mi mr Q) := tw_x_getr td_170_12 to_170 tf_10_53 (trf_10_21)
theorem td_170_15 : decode (tw_cd 170) 15 = .ok (.aload_n 0, 1) := by decide +kernel
theorem tz_170_15 : tw_E sc d 170 15 [some (.ref a), x1] st g mi mr Q = tw_E sc d 170 16 [some (.ref a), x1] (.ref a :: st) g mi mr Q := tw_x_aload_n td_170_15 rfl
theorem td_170_16 : decode (tw_cd 170) 16 = .ok (.getfield 185, 3) := by decide +kernel
theorem tz_170_16 : tw_E sc d 170 16 [x0, x1] (.ref a :: st) g mi mr Q = (tw_kd g a = 10 ∧ tw_E sc d 170 19 [x0, x1] (.int (mi a 20) :: st) g mi mr Q) := tw_x_geti td_170_16 to_170 tf_10_185 (trf_10_20)
theorem td_170_19 : decode (tw_cd 170) 19 = .ok (.iconst 1, 1) := by decide +kernel
theorem tz_170_19 : tw_E sc d 170 19 [x0, x1] st g mi mr Q = tw_E sc d 170 20 [x0, x1] (.int 1 :: st) g mi mr Q := tw_x_iconst td_170_19 (by decide)
theorem td_170_20 : decode (tw_cd 170) 20 = .ok (.isub, 1) := by decide +kernel
theorem tz_170_20 : tw_E sc d 170 20 [x0, x1] (.int w :: .int v :: st) g mi mr Q = tw_E sc d 170 21 [x0, x1] (.int (v - w) :: st) g mi mr Q := tw_x_isub td_170_20
theorem td_170_21 : decode (tw_cd 170) 21 = .ok (.iaload, 1) := by decide +kernel
theorem tz_170_21 : tw_E sc d 170 21 [x0, x1] (.int v :: .ref a :: st) g mi mr Q = ((tw_kd g a = 20 ∧ vp_in v (tw_ln g a)) ∧ tw_E sc d 170 22 [x0, x1] (.int (mi a v.toNatClampNeg) :: st) g mi mr Q) := tw_x_iald td_170_21
theorem td_170_22 : decode (tw_cd 170) 22 = .ok (.iload_n 1, 1) := by decide +kernel
theorem tz_170_22 : tw_E sc d 170 22 [x0, some (.int v)] st g mi mr Q = tw_E sc d 170 23 [x0, some (.int v)] (.int v :: st) g mi mr Q := tw_x_iload_n td_170_22 rfl
theorem td_170_23 : decode (tw_cd 170) 23 = .ok (.iconst (-1), 1) := by decide +kernel
theorem tz_170_23 : tw_E sc d 170 23 [x0, x1] st g mi mr Q = tw_E sc d 170 24 [x0, x1] (.int (-1) :: st) g mi mr Q := tw_x_iconst td_170_23 (by decide)
theorem td_170_24 : decode (tw_cd 170) 24 = .ok (.ixor, 1) := by decide +kernel
theorem tz_170_24 : tw_E sc d 170 24 [x0, x1] (.int w :: .int v :: st) g mi mr Q = tw_E sc d 170 25 [x0, x1] (.int (v ^^^ w) :: st) g mi mr Q := tw_x_ixor td_170_24
theorem td_170_25 : decode (tw_cd 170) 25 = .ok (.iand, 1) := by decide +kernel
theorem tz_170_25 : tw_E sc d 170 25 [x0, x1] (.int w :: .int v :: st) g mi mr Q = tw_E sc d 170 26 [x0, x1] (.int (v &&& w) :: st) g mi mr Q := tw_x_iand td_170_25
theorem td_170_26 : decode (tw_cd 170) 26 = .ok (.ireturn, 1) := by decide +kernel
theorem tz_170_26 : tw_E sc d 170 26 [x0, x1] ([.int v]) g mi mr Q = Q (some (.int v)) g mi mr := tw_x_iret td_170_26 tr_170
end tz_170
