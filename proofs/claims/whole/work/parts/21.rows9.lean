/-! a row for each instruction: printed by wip/whole/gen3.py -/
-- 171: Mo_sendFrame
section tz_171
variable {sc : Nat × (Nat → Int32)} {d : Nat} {x0 x1 x2 x3 x4 x5 x6 x7 : Option Value} {st : List Value} {g : tw_G} {mi : tw_I} {mr : tw_Q} {Q : Option Value → tw_G → tw_I → tw_Q → Prop} {v w u : Int32} {a b : Nat} {j h : Int64} {s1 s2 s3 s4 : Value}
theorem td_171_0 : decode (tw_cd 171) 0 = .ok (.aload_n 0, 1) := by decide +kernel
theorem tz_171_0 : tw_E sc d 171 0 [some (.ref a), x1, x2, x3, x4, x5, x6, x7] st g mi mr Q = tw_E sc d 171 1 [some (.ref a), x1, x2, x3, x4, x5, x6, x7] (.ref a :: st) g mi mr Q := tw_x_aload_n td_171_0 rfl
theorem td_171_1 : decode (tw_cd 171) 1 = .ok (.iconst 0, 1) := by decide +kernel
theorem tz_171_1 : tw_E sc d 171 1 [x0, x1, x2, x3, x4, x5, x6, x7] st g mi mr Q = tw_E sc d 171 2 [x0, x1, x2, x3, x4, x5, x6, x7] (.int 0 :: st) g mi mr Q := tw_x_iconst td_171_1 (by decide)
theorem td_171_2 : decode (tw_cd 171) 2 = .ok (.putfield 83, 3) := by decide +kernel
theorem tz_171_2 : tw_E sc d 171 2 [x0, x1, x2, x3, x4, x5, x6, x7] (.int v :: .ref a :: st) g mi mr Q = (tw_kd g a = 10 ∧ tw_E sc d 171 5 [x0, x1, x2, x3, x4, x5, x6, x7] st g (tw_st mi a (tw_st (mi a) 0 v)) mr Q) := tw_x_puti td_171_2 to_171 tf_10_83 rfl rfl
theorem td_171_5 : decode (tw_cd 171) 5 = .ok (.iload_n 1, 1) := by decide +kernel
theorem tz_171_5 : tw_E sc d 171 5 [x0, some (.int v), x2, x3, x4, x5, x6, x7] st g mi mr Q = tw_E sc d 171 6 [x0, some (.int v), x2, x3, x4, x5, x6, x7] (.int v :: st) g mi mr Q := tw_x_iload_n td_171_5 rfl
theorem td_171_6 : decode (tw_cd 171) 6 = .ok (.i2l, 1) := by decide +kernel
theorem tz_171_6 : tw_E sc d 171 6 [x0, x1, x2, x3, x4, x5, x6, x7] (.int v :: st) g mi mr Q = tw_E sc d 171 7 [x0, x1, x2, x3, x4, x5, x6, x7] (.long v.toInt64 :: st) g mi mr Q := tw_x_i2l td_171_6
theorem td_171_7 : decode (tw_cd 171) 7 = .ok (.lconst 0, 1) := by decide +kernel
theorem tz_171_7 : tw_E sc d 171 7 [x0, x1, x2, x3, x4, x5, x6, x7] st g mi mr Q = tw_E sc d 171 8 [x0, x1, x2, x3, x4, x5, x6, x7] (.long 0 :: st) g mi mr Q := tw_x_lconst td_171_7 (by decide)
theorem td_171_8 : decode (tw_cd 171) 8 = .ok (.ldc2_w 232, 3) := by decide +kernel
theorem tz_171_8 : tw_E sc d 171 8 [x0, x1, x2, x3, x4, x5, x6, x7] st g mi mr Q = tw_E sc d 171 11 [x0, x1, x2, x3, x4, x5, x6, x7] (.long 15 :: st) g mi mr Q := tw_x_ldl td_171_8 to_171 tl_10_232
theorem td_171_11 : decode (tw_cd 171) 11 = .ok (.invokestatic 96, 3) := by decide +kernel
theorem tz_171_11 {a0 : Int64} {a1 : Int64} {a2 : Int64} : tw_E sc (d + 1) 171 11 [x0, x1, x2, x3, x4, x5, x6, x7] ([.long a2, .long a1, .long a0]) g mi mr Q = tw_E sc d 126 0 [some (.long a0), none, some (.long a1), none, some (.long a2), none] [] g mi mr (tw_K sc (d + 1) 171 14 [x0, x1, x2, x3, x4, x5, x6, x7] [] Q) := tw_x_cs (as := [.long a0, .long a1, .long a2]) (r := []) td_171_11 to_171 tmn_10_96 tc_10_96 rfl rfl rfl rfl rfl
theorem td_171_14 : decode (tw_cd 171) 14 = .ok (.ifCond .ne 5, 3) := by decide +kernel
theorem tz_171_14 : tw_E sc d 171 14 [x0, x1, x2, x3, x4, x5, x6, x7] (.int v :: st) g mi mr Q = if ¬ v = 0 then tw_E sc d 171 19 [x0, x1, x2, x3, x4, x5, x6, x7] st g mi mr Q else tw_E sc d 171 17 [x0, x1, x2, x3, x4, x5, x6, x7] st g mi mr Q := tw_x_if_ne td_171_14 (by decide)
theorem td_171_17 : decode (tw_cd 171) 17 = .ok (.iconst (-1), 1) := by decide +kernel
theorem tz_171_17 : tw_E sc d 171 17 [x0, x1, x2, x3, x4, x5, x6, x7] st g mi mr Q = tw_E sc d 171 18 [x0, x1, x2, x3, x4, x5, x6, x7] (.int (-1) :: st) g mi mr Q := tw_x_iconst td_171_17 (by decide)
theorem td_171_18 : decode (tw_cd 171) 18 = .ok (.ireturn, 1) := by decide +kernel
theorem tz_171_18 : tw_E sc d 171 18 [x0, x1, x2, x3, x4, x5, x6, x7] ([.int v]) g mi mr Q = Q (some (.int v)) g mi mr := tw_x_iret td_171_18 tr_171
theorem td_171_19 : decode (tw_cd 171) 19 = .ok (.iload_n 2, 1) := by decide +kernel
theorem tz_171_19 : tw_E sc d 171 19 [x0, x1, some (.int v), x3, x4, x5, x6, x7] st g mi mr Q = tw_E sc d 171 20 [x0, x1, some (.int v), x3, x4, x5, x6, x7] (.int v :: st) g mi mr Q := tw_x_iload_n td_171_19 rfl
theorem td_171_20 : decode (tw_cd 171) 20 = .ok (.i2l, 1) := by decide +kernel
theorem tz_171_20 : tw_E sc d 171 20 [x0, x1, x2, x3, x4, x5, x6, x7] (.int v :: st) g mi mr Q = tw_E sc d 171 21 [x0, x1, x2, x3, x4, x5, x6, x7] (.long v.toInt64 :: st) g mi mr Q := tw_x_i2l td_171_20
theorem td_171_21 : decode (tw_cd 171) 21 = .ok (.lconst 1, 1) := by decide +kernel
theorem tz_171_21 : tw_E sc d 171 21 [x0, x1, x2, x3, x4, x5, x6, x7] st g mi mr Q = tw_E sc d 171 22 [x0, x1, x2, x3, x4, x5, x6, x7] (.long 1 :: st) g mi mr Q := tw_x_lconst td_171_21 (by decide)
theorem td_171_22 : decode (tw_cd 171) 22 = .ok (.ldc2_w 234, 3) := by decide +kernel
theorem tz_171_22 : tw_E sc d 171 22 [x0, x1, x2, x3, x4, x5, x6, x7] st g mi mr Q = tw_E sc d 171 25 [x0, x1, x2, x3, x4, x5, x6, x7] (.long 20 :: st) g mi mr Q := tw_x_ldl td_171_22 to_171 tl_10_234
theorem td_171_25 : decode (tw_cd 171) 25 = .ok (.invokestatic 96, 3) := by decide +kernel
theorem tz_171_25 {a0 : Int64} {a1 : Int64} {a2 : Int64} : tw_E sc (d + 1) 171 25 [x0, x1, x2, x3, x4, x5, x6, x7] ([.long a2, .long a1, .long a0]) g mi mr Q = tw_E sc d 126 0 [some (.long a0), none, some (.long a1), none, some (.long a2), none] [] g mi mr (tw_K sc (d + 1) 171 28 [x0, x1, x2, x3, x4, x5, x6, x7] [] Q) := tw_x_cs (as := [.long a0, .long a1, .long a2]) (r := []) td_171_25 to_171 tmn_10_96 tc_10_96 rfl rfl rfl rfl rfl
theorem td_171_28 : decode (tw_cd 171) 28 = .ok (.ifCond .eq 15, 3) := by decide +kernel
theorem tz_171_28 : tw_E sc d 171 28 [x0, x1, x2, x3, x4, x5, x6, x7] (.int v :: st) g mi mr Q = if v = 0 then tw_E sc d 171 43 [x0, x1, x2, x3, x4, x5, x6, x7] st g mi mr Q else tw_E sc d 171 31 [x0, x1, x2, x3, x4, x5, x6, x7] st g mi mr Q := tw_x_if_eq td_171_28 (by decide)
theorem td_171_31 : decode (tw_cd 171) 31 = .ok (.iload_n 3, 1) := by decide +kernel
theorem tz_171_31 : tw_E sc d 171 31 [x0, x1, x2, some (.int v), x4, x5, x6, x7] st g mi mr Q = tw_E sc d 171 32 [x0, x1, x2, some (.int v), x4, x5, x6, x7] (.int v :: st) g mi mr Q := tw_x_iload_n td_171_31 rfl
theorem td_171_32 : decode (tw_cd 171) 32 = .ok (.i2l, 1) := by decide +kernel
theorem tz_171_32 : tw_E sc d 171 32 [x0, x1, x2, x3, x4, x5, x6, x7] (.int v :: st) g mi mr Q = tw_E sc d 171 33 [x0, x1, x2, x3, x4, x5, x6, x7] (.long v.toInt64 :: st) g mi mr Q := tw_x_i2l td_171_32
theorem td_171_33 : decode (tw_cd 171) 33 = .ok (.lconst 0, 1) := by decide +kernel
theorem tz_171_33 : tw_E sc d 171 33 [x0, x1, x2, x3, x4, x5, x6, x7] st g mi mr Q = tw_E sc d 171 34 [x0, x1, x2, x3, x4, x5, x6, x7] (.long 0 :: st) g mi mr Q := tw_x_lconst td_171_33 (by decide)
theorem td_171_34 : decode (tw_cd 171) 34 = .ok (.ldc2_w 87, 3) := by decide +kernel
theorem tz_171_34 : tw_E sc d 171 34 [x0, x1, x2, x3, x4, x5, x6, x7] st g mi mr Q = tw_E sc d 171 37 [x0, x1, x2, x3, x4, x5, x6, x7] (.long 255 :: st) g mi mr Q := tw_x_ldl td_171_34 to_171 tl_10_87
theorem td_171_37 : decode (tw_cd 171) 37 = .ok (.invokestatic 96, 3) := by decide +kernel
theorem tz_171_37 {a0 : Int64} {a1 : Int64} {a2 : Int64} : tw_E sc (d + 1) 171 37 [x0, x1, x2, x3, x4, x5, x6, x7] ([.long a2, .long a1, .long a0]) g mi mr Q = tw_E sc d 126 0 [some (.long a0), none, some (.long a1), none, some (.long a2), none] [] g mi mr (tw_K sc (d + 1) 171 40 [x0, x1, x2, x3, x4, x5, x6, x7] [] Q) := tw_x_cs (as := [.long a0, .long a1, .long a2]) (r := []) td_171_37 to_171 tmn_10_96 tc_10_96 rfl rfl rfl rfl rfl
theorem td_171_40 : decode (tw_cd 171) 40 = .ok (.ifCond .ne 6, 3) := by decide +kernel
theorem tz_171_40 : tw_E sc d 171 40 [x0, x1, x2, x3, x4, x5, x6, x7] (.int v :: st) g mi mr Q = if ¬ v = 0 then tw_E sc d 171 46 [x0, x1, x2, x3, x4, x5, x6, x7] st g mi mr Q else tw_E sc d 171 43 [x0, x1, x2, x3, x4, x5, x6, x7] st g mi mr Q := tw_x_if_ne td_171_40 (by decide)
theorem td_171_43 : decode (tw_cd 171) 43 = .ok (.bipush (-2), 2) := by decide +kernel
theorem tz_171_43 : tw_E sc d 171 43 [x0, x1, x2, x3, x4, x5, x6, x7] st g mi mr Q = tw_E sc d 171 45 [x0, x1, x2, x3, x4, x5, x6, x7] (.int (-2) :: st) g mi mr Q := tw_x_bipush td_171_43 (by decide)
theorem td_171_45 : decode (tw_cd 171) 45 = .ok (.ireturn, 1) := by decide +kernel
theorem tz_171_45 : tw_E sc d 171 45 [x0, x1, x2, x3, x4, x5, x6, x7] ([.int v]) g mi mr Q = Q (some (.int v)) g mi mr := tw_x_iret td_171_45 tr_171
theorem td_171_46 : decode (tw_cd 171) 46 = .ok (.aload_n 0, 1) := by decide +kernel
theorem tz_171_46 : tw_E sc d 171 46 [some (.ref a), x1, x2, x3, x4, x5, x6, x7] st g mi mr Q = tw_E sc d 171 47 [some (.ref a), x1, x2, x3, x4, x5, x6, x7] (.ref a :: st) g mi mr Q := tw_x_aload_n td_171_46 rfl
theorem td_171_47 : decode (tw_cd 171) 47 = .ok (.getfield 179, 3) := by decide +kernel
theorem tz_171_47 : tw_E sc d 171 47 [x0, x1, x2, x3, x4, x5, x6, x7] (.ref a :: st) g mi mr Q = (tw_kd g a = 10 ∧ tw_E sc d 171 50 [x0, x1, x2, x3, x4, x5, x6, x7] (.int (mi a 4) :: st) g mi mr Q) := tw_x_geti td_171_47 to_171 tf_10_179 (trf_10_4)
theorem td_171_50 : decode (tw_cd 171) 50 = .ok (.ifCond .ne 6, 3) := by decide +kernel
theorem tz_171_50 : tw_E sc d 171 50 [x0, x1, x2, x3, x4, x5, x6, x7] (.int v :: st) g mi mr Q = if ¬ v = 0 then tw_E sc d 171 56 [x0, x1, x2, x3, x4, x5, x6, x7] st g mi mr Q else tw_E sc d 171 53 [x0, x1, x2, x3, x4, x5, x6, x7] st g mi mr Q := tw_x_if_ne td_171_50 (by decide)
theorem td_171_53 : decode (tw_cd 171) 53 = .ok (.bipush (-3), 2) := by decide +kernel
theorem tz_171_53 : tw_E sc d 171 53 [x0, x1, x2, x3, x4, x5, x6, x7] st g mi mr Q = tw_E sc d 171 55 [x0, x1, x2, x3, x4, x5, x6, x7] (.int (-3) :: st) g mi mr Q := tw_x_bipush td_171_53 (by decide)
theorem td_171_55 : decode (tw_cd 171) 55 = .ok (.ireturn, 1) := by decide +kernel
theorem tz_171_55 : tw_E sc d 171 55 [x0, x1, x2, x3, x4, x5, x6, x7] ([.int v]) g mi mr Q = Q (some (.int v)) g mi mr := tw_x_iret td_171_55 tr_171
theorem td_171_56 : decode (tw_cd 171) 56 = .ok (.aload_n 0, 1) := by decide +kernel
theorem tz_171_56 : tw_E sc d 171 56 [some (.ref a), x1, x2, x3, x4, x5, x6, x7] st g mi mr Q = tw_E sc d 171 57 [some (.ref a), x1, x2, x3, x4, x5, x6, x7] (.ref a :: st) g mi mr Q := tw_x_aload_n td_171_56 rfl
theorem td_171_57 : decode (tw_cd 171) 57 = .ok (.getfield 185, 3) := by decide +kernel
theorem tz_171_57 : tw_E sc d 171 57 [x0, x1, x2, x3, x4, x5, x6, x7] (.ref a :: st) g mi mr Q = (tw_kd g a = 10 ∧ tw_E sc d 171 60 [x0, x1, x2, x3, x4, x5, x6, x7] (.int (mi a 20) :: st) g mi mr Q) := tw_x_geti td_171_57 to_171 tf_10_185 (trf_10_20)
theorem td_171_60 : decode (tw_cd 171) 60 = .ok (.bipush 10, 2) := by decide +kernel
theorem tz_171_60 : tw_E sc d 171 60 [x0, x1, x2, x3, x4, x5, x6, x7] st g mi mr Q = tw_E sc d 171 62 [x0, x1, x2, x3, x4, x5, x6, x7] (.int 10 :: st) g mi mr Q := tw_x_bipush td_171_60 (by decide)
theorem td_171_62 : decode (tw_cd 171) 62 = .ok (.iload_n 2, 1) := by decide +kernel
theorem tz_171_62 : tw_E sc d 171 62 [x0, x1, some (.int v), x3, x4, x5, x6, x7] st g mi mr Q = tw_E sc d 171 63 [x0, x1, some (.int v), x3, x4, x5, x6, x7] (.int v :: st) g mi mr Q := tw_x_iload_n td_171_62 rfl
theorem td_171_63 : decode (tw_cd 171) 63 = .ok (.imul, 1) := by decide +kernel
theorem tz_171_63 : tw_E sc d 171 63 [x0, x1, x2, x3, x4, x5, x6, x7] (.int w :: .int v :: st) g mi mr Q = tw_E sc d 171 64 [x0, x1, x2, x3, x4, x5, x6, x7] (.int (v * w) :: st) g mi mr Q := tw_x_imul td_171_63
theorem td_171_64 : decode (tw_cd 171) 64 = .ok (.iadd, 1) := by decide +kernel
theorem tz_171_64 : tw_E sc d 171 64 [x0, x1, x2, x3, x4, x5, x6, x7] (.int w :: .int v :: st) g mi mr Q = tw_E sc d 171 65 [x0, x1, x2, x3, x4, x5, x6, x7] (.int (v + w) :: st) g mi mr Q := tw_x_iadd td_171_64
theorem td_171_65 : decode (tw_cd 171) 65 = .ok (.sipush 4000, 3) := by decide +kernel
theorem tz_171_65 : tw_E sc d 171 65 [x0, x1, x2, x3, x4, x5, x6, x7] st g mi mr Q = tw_E sc d 171 68 [x0, x1, x2, x3, x4, x5, x6, x7] (.int 4000 :: st) g mi mr Q := tw_x_sipush td_171_65 (by decide)
theorem td_171_68 : decode (tw_cd 171) 68 = .ok (.if_icmp .le 6, 3) := by decide +kernel
theorem tz_171_68 : tw_E sc d 171 68 [x0, x1, x2, x3, x4, x5, x6, x7] (.int w :: .int v :: st) g mi mr Q = if v ≤ w then tw_E sc d 171 74 [x0, x1, x2, x3, x4, x5, x6, x7] st g mi mr Q else tw_E sc d 171 71 [x0, x1, x2, x3, x4, x5, x6, x7] st g mi mr Q := tw_x_ic_le td_171_68 (by decide)
theorem td_171_71 : decode (tw_cd 171) 71 = .ok (.bipush (-4), 2) := by decide +kernel
theorem tz_171_71 : tw_E sc d 171 71 [x0, x1, x2, x3, x4, x5, x6, x7] st g mi mr Q = tw_E sc d 171 73 [x0, x1, x2, x3, x4, x5, x6, x7] (.int (-4) :: st) g mi mr Q := tw_x_bipush td_171_71 (by decide)
theorem td_171_73 : decode (tw_cd 171) 73 = .ok (.ireturn, 1) := by decide +kernel
theorem tz_171_73 : tw_E sc d 171 73 [x0, x1, x2, x3, x4, x5, x6, x7] ([.int v]) g mi mr Q = Q (some (.int v)) g mi mr := tw_x_iret td_171_73 tr_171
theorem td_171_74 : decode (tw_cd 171) 74 = .ok (.aload_n 0, 1) := by decide +kernel
theorem tz_171_74 : tw_E sc d 171 74 [some (.ref a), x1, x2, x3, x4, x5, x6, x7] st g mi mr Q = tw_E sc d 171 75 [some (.ref a), x1, x2, x3, x4, x5, x6, x7] (.ref a :: st) g mi mr Q := tw_x_aload_n td_171_74 rfl
theorem td_171_75 : decode (tw_cd 171) 75 = .ok (.iconst 1, 1) := by decide +kernel
theorem tz_171_75 : tw_E sc d 171 75 [x0, x1, x2, x3, x4, x5, x6, x7] st g mi mr Q = tw_E sc d 171 76 [x0, x1, x2, x3, x4, x5, x6, x7] (.int 1 :: st) g mi mr Q := tw_x_iconst td_171_75 (by decide)
theorem td_171_76 : decode (tw_cd 171) 76 = .ok (.iload_n 1, 1) := by decide +kernel
theorem tz_171_76 : tw_E sc d 171 76 [x0, some (.int v), x2, x3, x4, x5, x6, x7] st g mi mr Q = tw_E sc d 171 77 [x0, some (.int v), x2, x3, x4, x5, x6, x7] (.int v :: st) g mi mr Q := tw_x_iload_n td_171_76 rfl
theorem td_171_77 : decode (tw_cd 171) 77 = .ok (.ishl, 1) := by decide +kernel
theorem tz_171_77 : tw_E sc d 171 77 [x0, x1, x2, x3, x4, x5, x6, x7] (.int w :: .int v :: st) g mi mr Q = tw_E sc d 171 78 [x0, x1, x2, x3, x4, x5, x6, x7] (.int (v <<< (w &&& 31)) :: st) g mi mr Q := tw_x_ishl td_171_77
theorem td_171_78 : decode (tw_cd 171) 78 = .ok (.invokevirtual 243, 3) := by decide +kernel
theorem tz_171_78 {a0 : Int32} : tw_E sc (d + 1) 171 78 [x0, x1, x2, x3, x4, x5, x6, x7] ([.int a0, .ref a]) g mi mr Q = (tw_kd g a = 10 ∧ tw_E sc d 170 0 [some (.ref a), some (.int a0)] [] g mi mr (tw_K sc (d + 1) 171 81 [x0, x1, x2, x3, x4, x5, x6, x7] [] Q)) := tw_x_cv (as := [.int a0]) (r := []) td_171_78 to_171 tc_10_243 to_170 rfl rfl rfl rfl
theorem td_171_81 : decode (tw_cd 171) 81 = .ok (.istore 4, 2) := by decide +kernel
theorem tz_171_81 : tw_E sc d 171 81 [x0, x1, x2, x3, x4, x5, x6, x7] (.int v :: st) g mi mr Q = tw_E sc d 171 83 [x0, x1, x2, x3, some (.int v), x5, x6, x7] st g mi mr Q := tw_x_istore td_171_81 tp_171 rfl
theorem td_171_83 : decode (tw_cd 171) 83 = .ok (.iload_n 3, 1) := by decide +kernel
theorem tz_171_83 : tw_E sc d 171 83 [x0, x1, x2, some (.int v), x4, x5, x6, x7] st g mi mr Q = tw_E sc d 171 84 [x0, x1, x2, some (.int v), x4, x5, x6, x7] (.int v :: st) g mi mr Q := tw_x_iload_n td_171_83 rfl
theorem td_171_84 : decode (tw_cd 171) 84 = .ok (.iconst 1, 1) := by decide +kernel
theorem tz_171_84 : tw_E sc d 171 84 [x0, x1, x2, x3, x4, x5, x6, x7] st g mi mr Q = tw_E sc d 171 85 [x0, x1, x2, x3, x4, x5, x6, x7] (.int 1 :: st) g mi mr Q := tw_x_iconst td_171_84 (by decide)
theorem td_171_85 : decode (tw_cd 171) 85 = .ok (.ishl, 1) := by decide +kernel
theorem tz_171_85 : tw_E sc d 171 85 [x0, x1, x2, x3, x4, x5, x6, x7] (.int w :: .int v :: st) g mi mr Q = tw_E sc d 171 86 [x0, x1, x2, x3, x4, x5, x6, x7] (.int (v <<< (w &&& 31)) :: st) g mi mr Q := tw_x_ishl td_171_85
theorem td_171_86 : decode (tw_cd 171) 86 = .ok (.sipush 512, 3) := by decide +kernel
theorem tz_171_86 : tw_E sc d 171 86 [x0, x1, x2, x3, x4, x5, x6, x7] st g mi mr Q = tw_E sc d 171 89 [x0, x1, x2, x3, x4, x5, x6, x7] (.int 512 :: st) g mi mr Q := tw_x_sipush td_171_86 (by decide)
theorem td_171_89 : decode (tw_cd 171) 89 = .ok (.ior, 1) := by decide +kernel
theorem tz_171_89 : tw_E sc d 171 89 [x0, x1, x2, x3, x4, x5, x6, x7] (.int w :: .int v :: st) g mi mr Q = tw_E sc d 171 90 [x0, x1, x2, x3, x4, x5, x6, x7] (.int (v ||| w) :: st) g mi mr Q := tw_x_ior td_171_89
theorem td_171_90 : decode (tw_cd 171) 90 = .ok (.istore 5, 2) := by decide +kernel
theorem tz_171_90 : tw_E sc d 171 90 [x0, x1, x2, x3, x4, x5, x6, x7] (.int v :: st) g mi mr Q = tw_E sc d 171 92 [x0, x1, x2, x3, x4, some (.int v), x6, x7] st g mi mr Q := tw_x_istore td_171_90 tp_171 rfl
theorem td_171_92 : decode (tw_cd 171) 92 = .ok (.iconst 0, 1) := by decide +kernel
theorem tz_171_92 : tw_E sc d 171 92 [x0, x1, x2, x3, x4, x5, x6, x7] st g mi mr Q = tw_E sc d 171 93 [x0, x1, x2, x3, x4, x5, x6, x7] (.int 0 :: st) g mi mr Q := tw_x_iconst td_171_92 (by decide)
theorem td_171_93 : decode (tw_cd 171) 93 = .ok (.istore 6, 2) := by decide +kernel
theorem tz_171_93 : tw_E sc d 171 93 [x0, x1, x2, x3, x4, x5, x6, x7] (.int v :: st) g mi mr Q = tw_E sc d 171 95 [x0, x1, x2, x3, x4, x5, some (.int v), x7] st g mi mr Q := tw_x_istore td_171_93 tp_171 rfl
theorem td_171_95 : decode (tw_cd 171) 95 = .ok (.iconst 0, 1) := by decide +kernel
theorem tz_171_95 : tw_E sc d 171 95 [x0, x1, x2, x3, x4, x5, x6, x7] st g mi mr Q = tw_E sc d 171 96 [x0, x1, x2, x3, x4, x5, x6, x7] (.int 0 :: st) g mi mr Q := tw_x_iconst td_171_95 (by decide)
theorem td_171_96 : decode (tw_cd 171) 96 = .ok (.istore 7, 2) := by decide +kernel
theorem tz_171_96 : tw_E sc d 171 96 [x0, x1, x2, x3, x4, x5, x6, x7] (.int v :: st) g mi mr Q = tw_E sc d 171 98 [x0, x1, x2, x3, x4, x5, x6, some (.int v)] st g mi mr Q := tw_x_istore td_171_96 tp_171 rfl
theorem td_171_98 : decode (tw_cd 171) 98 = .ok (.iload 7, 2) := by decide +kernel
theorem tz_171_98 : tw_E sc d 171 98 [x0, x1, x2, x3, x4, x5, x6, some (.int v)] st g mi mr Q = tw_E sc d 171 100 [x0, x1, x2, x3, x4, x5, x6, some (.int v)] (.int v :: st) g mi mr Q := tw_x_iload td_171_98 rfl
theorem td_171_100 : decode (tw_cd 171) 100 = .ok (.bipush 10, 2) := by decide +kernel
theorem tz_171_100 : tw_E sc d 171 100 [x0, x1, x2, x3, x4, x5, x6, x7] st g mi mr Q = tw_E sc d 171 102 [x0, x1, x2, x3, x4, x5, x6, x7] (.int 10 :: st) g mi mr Q := tw_x_bipush td_171_100 (by decide)
theorem td_171_102 : decode (tw_cd 171) 102 = .ok (.iload_n 2, 1) := by decide +kernel
theorem tz_171_102 : tw_E sc d 171 102 [x0, x1, some (.int v), x3, x4, x5, x6, x7] st g mi mr Q = tw_E sc d 171 103 [x0, x1, some (.int v), x3, x4, x5, x6, x7] (.int v :: st) g mi mr Q := tw_x_iload_n td_171_102 rfl
theorem td_171_103 : decode (tw_cd 171) 103 = .ok (.imul, 1) := by decide +kernel
theorem tz_171_103 : tw_E sc d 171 103 [x0, x1, x2, x3, x4, x5, x6, x7] (.int w :: .int v :: st) g mi mr Q = tw_E sc d 171 104 [x0, x1, x2, x3, x4, x5, x6, x7] (.int (v * w) :: st) g mi mr Q := tw_x_imul td_171_103
theorem td_171_104 : decode (tw_cd 171) 104 = .ok (.if_icmp .ge 32, 3) := by decide +kernel
theorem tz_171_104 : tw_E sc d 171 104 [x0, x1, x2, x3, x4, x5, x6, x7] (.int w :: .int v :: st) g mi mr Q = if w ≤ v then tw_E sc d 171 136 [x0, x1, x2, x3, x4, x5, x6, x7] st g mi mr Q else tw_E sc d 171 107 [x0, x1, x2, x3, x4, x5, x6, x7] st g mi mr Q := tw_x_ic_ge td_171_104 (by decide)
theorem td_171_107 : decode (tw_cd 171) 107 = .ok (.iload 6, 2) := by decide +kernel
theorem tz_171_107 : tw_E sc d 171 107 [x0, x1, x2, x3, x4, x5, some (.int v), x7] st g mi mr Q = tw_E sc d 171 109 [x0, x1, x2, x3, x4, x5, some (.int v), x7] (.int v :: st) g mi mr Q := tw_x_iload td_171_107 rfl
theorem td_171_109 : decode (tw_cd 171) 109 = .ok (.aload_n 0, 1) := by decide +kernel
theorem tz_171_109 : tw_E sc d 171 109 [some (.ref a), x1, x2, x3, x4, x5, x6, x7] st g mi mr Q = tw_E sc d 171 110 [some (.ref a), x1, x2, x3, x4, x5, x6, x7] (.ref a :: st) g mi mr Q := tw_x_aload_n td_171_109 rfl
theorem td_171_110 : decode (tw_cd 171) 110 = .ok (.iload 4, 2) := by decide +kernel
theorem tz_171_110 : tw_E sc d 171 110 [x0, x1, x2, x3, some (.int v), x5, x6, x7] st g mi mr Q = tw_E sc d 171 112 [x0, x1, x2, x3, some (.int v), x5, x6, x7] (.int v :: st) g mi mr Q := tw_x_iload td_171_110 rfl
theorem td_171_112 : decode (tw_cd 171) 112 = .ok (.iload 5, 2) := by decide +kernel
theorem tz_171_112 : tw_E sc d 171 112 [x0, x1, x2, x3, x4, some (.int v), x6, x7] st g mi mr Q = tw_E sc d 171 114 [x0, x1, x2, x3, x4, some (.int v), x6, x7] (.int v :: st) g mi mr Q := tw_x_iload td_171_112 rfl
theorem td_171_114 : decode (tw_cd 171) 114 = .ok (.iload 7, 2) := by decide +kernel
theorem tz_171_114 : tw_E sc d 171 114 [x0, x1, x2, x3, x4, x5, x6, some (.int v)] st g mi mr Q = tw_E sc d 171 116 [x0, x1, x2, x3, x4, x5, x6, some (.int v)] (.int v :: st) g mi mr Q := tw_x_iload td_171_114 rfl
theorem td_171_116 : decode (tw_cd 171) 116 = .ok (.iload_n 2, 1) := by decide +kernel
theorem tz_171_116 : tw_E sc d 171 116 [x0, x1, some (.int v), x3, x4, x5, x6, x7] st g mi mr Q = tw_E sc d 171 117 [x0, x1, some (.int v), x3, x4, x5, x6, x7] (.int v :: st) g mi mr Q := tw_x_iload_n td_171_116 rfl
theorem td_171_117 : decode (tw_cd 171) 117 = .ok (.idiv, 1) := by decide +kernel
theorem tz_171_117 : tw_E sc d 171 117 [x0, x1, x2, x3, x4, x5, x6, x7] (.int w :: .int v :: st) g mi mr Q = (¬ w = 0 ∧ tw_E sc d 171 118 [x0, x1, x2, x3, x4, x5, x6, x7] (.int (v / w) :: st) g mi mr Q) := tw_x_idiv td_171_117
theorem td_171_118 : decode (tw_cd 171) 118 = .ok (.ishr, 1) := by decide +kernel
theorem tz_171_118 : tw_E sc d 171 118 [x0, x1, x2, x3, x4, x5, x6, x7] (.int w :: .int v :: st) g mi mr Q = tw_E sc d 171 119 [x0, x1, x2, x3, x4, x5, x6, x7] (.int (v >>> (w &&& 31)) :: st) g mi mr Q := tw_x_ishr td_171_118
theorem td_171_119 : decode (tw_cd 171) 119 = .ok (.iconst 1, 1) := by decide +kernel
theorem tz_171_119 : tw_E sc d 171 119 [x0, x1, x2, x3, x4, x5, x6, x7] st g mi mr Q = tw_E sc d 171 120 [x0, x1, x2, x3, x4, x5, x6, x7] (.int 1 :: st) g mi mr Q := tw_x_iconst td_171_119 (by decide)
theorem td_171_120 : decode (tw_cd 171) 120 = .ok (.iand, 1) := by decide +kernel
theorem tz_171_120 : tw_E sc d 171 120 [x0, x1, x2, x3, x4, x5, x6, x7] (.int w :: .int v :: st) g mi mr Q = tw_E sc d 171 121 [x0, x1, x2, x3, x4, x5, x6, x7] (.int (v &&& w) :: st) g mi mr Q := tw_x_iand td_171_120
theorem td_171_121 : decode (tw_cd 171) 121 = .ok (.iload_n 1, 1) := by decide +kernel
theorem tz_171_121 : tw_E sc d 171 121 [x0, some (.int v), x2, x3, x4, x5, x6, x7] st g mi mr Q = tw_E sc d 171 122 [x0, some (.int v), x2, x3, x4, x5, x6, x7] (.int v :: st) g mi mr Q := tw_x_iload_n td_171_121 rfl
theorem td_171_122 : decode (tw_cd 171) 122 = .ok (.ishl, 1) := by decide +kernel
theorem tz_171_122 : tw_E sc d 171 122 [x0, x1, x2, x3, x4, x5, x6, x7] (.int w :: .int v :: st) g mi mr Q = tw_E sc d 171 123 [x0, x1, x2, x3, x4, x5, x6, x7] (.int (v <<< (w &&& 31)) :: st) g mi mr Q := tw_x_ishl td_171_122
theorem td_171_123 : decode (tw_cd 171) 123 = .ok (.ior, 1) := by decide +kernel
theorem tz_171_123 : tw_E sc d 171 123 [x0, x1, x2, x3, x4, x5, x6, x7] (.int w :: .int v :: st) g mi mr Q = tw_E sc d 171 124 [x0, x1, x2, x3, x4, x5, x6, x7] (.int (v ||| w) :: st) g mi mr Q := tw_x_ior td_171_123
theorem td_171_124 : decode (tw_cd 171) 124 = .ok (.invokevirtual 207, 3) := by decide +kernel
theorem tz_171_124 {a0 : Int32} : tw_E sc (d + 1) 171 124 [x0, x1, x2, x3, x4, x5, x6, x7] ([.int a0, .ref a, s1]) g mi mr Q = (tw_kd g a = 10 ∧ tw_E sc d 149 0 [some (.ref a), some (.int a0), none] [] g mi mr (tw_K sc (d + 1) 171 127 [x0, x1, x2, x3, x4, x5, x6, x7] [s1] Q)) := tw_x_cv (as := [.int a0]) (r := [s1]) td_171_124 to_171 tc_10_207 to_149 rfl rfl rfl rfl
theorem td_171_127 : decode (tw_cd 171) 127 = .ok (.iadd, 1) := by decide +kernel
theorem tz_171_127 : tw_E sc d 171 127 [x0, x1, x2, x3, x4, x5, x6, x7] (.int w :: .int v :: st) g mi mr Q = tw_E sc d 171 128 [x0, x1, x2, x3, x4, x5, x6, x7] (.int (v + w) :: st) g mi mr Q := tw_x_iadd td_171_127
theorem td_171_128 : decode (tw_cd 171) 128 = .ok (.istore 6, 2) := by decide +kernel
theorem tz_171_128 : tw_E sc d 171 128 [x0, x1, x2, x3, x4, x5, x6, x7] (.int v :: st) g mi mr Q = tw_E sc d 171 130 [x0, x1, x2, x3, x4, x5, some (.int v), x7] st g mi mr Q := tw_x_istore td_171_128 tp_171 rfl
theorem td_171_130 : decode (tw_cd 171) 130 = .ok (.iinc 7 1, 3) := by decide +kernel
theorem tz_171_130 : tw_E sc d 171 130 [x0, x1, x2, x3, x4, x5, x6, some (.int v)] st g mi mr Q = tw_E sc d 171 133 [x0, x1, x2, x3, x4, x5, x6, some (.int (v + 1))] st g mi mr Q := tw_x_iinc td_171_130 rfl (by first | rfl | (exact congrArg (v + ·) (by decide))) tp_171 rfl
theorem td_171_133 : decode (tw_cd 171) 133 = .ok (.goto (-35), 3) := by decide +kernel
theorem tz_171_133 : tw_E sc d 171 133 [x0, x1, x2, x3, x4, x5, x6, x7] st g mi mr Q = tw_E sc d 171 98 [x0, x1, x2, x3, x4, x5, x6, x7] st g mi mr Q := tw_x_goto td_171_133 (by decide)
theorem td_171_136 : decode (tw_cd 171) 136 = .ok (.iload 6, 2) := by decide +kernel
theorem tz_171_136 : tw_E sc d 171 136 [x0, x1, x2, x3, x4, x5, some (.int v), x7] st g mi mr Q = tw_E sc d 171 138 [x0, x1, x2, x3, x4, x5, some (.int v), x7] (.int v :: st) g mi mr Q := tw_x_iload td_171_136 rfl
theorem td_171_138 : decode (tw_cd 171) 138 = .ok (.ireturn, 1) := by decide +kernel
theorem tz_171_138 : tw_E sc d 171 138 [x0, x1, x2, x3, x4, x5, x6, x7] ([.int v]) g mi mr Q = Q (some (.int v)) g mi mr := tw_x_iret td_171_138 tr_171
end tz_171
-- 172: Mo_sendByte
section tz_172
variable {sc : Nat × (Nat → Int32)} {d : Nat} {x0 x1 x2 x3 x4 x5 x6 x7 x8 x9 x10 x11 : Option Value} {st : List Value} {g : tw_G} {mi : tw_I} {mr : tw_Q} {Q : Option Value → tw_G → tw_I → tw_Q → Prop} {v w u : Int32} {a b : Nat} {j h : Int64} {s1 s2 s3 s4 : Value}
theorem td_172_0 : decode (tw_cd 172) 0 = .ok (.aload_n 0, 1) := by decide +kernel
theorem tz_172_0 : tw_E sc d 172 0 [some (.ref a), x1, x2, x3, x4, x5, x6, x7, x8, x9, x10, x11] st g mi mr Q = tw_E sc d 172 1 [some (.ref a), x1, x2, x3, x4, x5, x6, x7, x8, x9, x10, x11] (.ref a :: st) g mi mr Q := tw_x_aload_n td_172_0 rfl
theorem td_172_1 : decode (tw_cd 172) 1 = .ok (.iconst 0, 1) := by decide +kernel
theorem tz_172_1 : tw_E sc d 172 1 [x0, x1, x2, x3, x4, x5, x6, x7, x8, x9, x10, x11] st g mi mr Q = tw_E sc d 172 2 [x0, x1, x2, x3, x4, x5, x6, x7, x8, x9, x10, x11] (.int 0 :: st) g mi mr Q := tw_x_iconst td_172_1 (by decide)
theorem td_172_2 : decode (tw_cd 172) 2 = .ok (.putfield 83, 3) := by decide +kernel
theorem tz_172_2 : tw_E sc d 172 2 [x0, x1, x2, x3, x4, x5, x6, x7, x8, x9, x10, x11] (.int v :: .ref a :: st) g mi mr Q = (tw_kd g a = 10 ∧ tw_E sc d 172 5 [x0, x1, x2, x3, x4, x5, x6, x7, x8, x9, x10, x11] st g (tw_st mi a (tw_st (mi a) 0 v)) mr Q) := tw_x_puti td_172_2 to_172 tf_10_83 rfl rfl
theorem td_172_5 : decode (tw_cd 172) 5 = .ok (.iload_n 1, 1) := by decide +kernel
theorem tz_172_5 : tw_E sc d 172 5 [x0, some (.int v), x2, x3, x4, x5, x6, x7, x8, x9, x10, x11] st g mi mr Q = tw_E sc d 172 6 [x0, some (.int v), x2, x3, x4, x5, x6, x7, x8, x9, x10, x11] (.int v :: st) g mi mr Q := tw_x_iload_n td_172_5 rfl
theorem td_172_6 : decode (tw_cd 172) 6 = .ok (.i2l, 1) := by decide +kernel
theorem tz_172_6 : tw_E sc d 172 6 [x0, x1, x2, x3, x4, x5, x6, x7, x8, x9, x10, x11] (.int v :: st) g mi mr Q = tw_E sc d 172 7 [x0, x1, x2, x3, x4, x5, x6, x7, x8, x9, x10, x11] (.long v.toInt64 :: st) g mi mr Q := tw_x_i2l td_172_6
theorem td_172_7 : decode (tw_cd 172) 7 = .ok (.lconst 0, 1) := by decide +kernel
theorem tz_172_7 : tw_E sc d 172 7 [x0, x1, x2, x3, x4, x5, x6, x7, x8, x9, x10, x11] st g mi mr Q = tw_E sc d 172 8 [x0, x1, x2, x3, x4, x5, x6, x7, x8, x9, x10, x11] (.long 0 :: st) g mi mr Q := tw_x_lconst td_172_7 (by decide)
theorem td_172_8 : decode (tw_cd 172) 8 = .ok (.ldc2_w 232, 3) := by decide +kernel
theorem tz_172_8 : tw_E sc d 172 8 [x0, x1, x2, x3, x4, x5, x6, x7, x8, x9, x10, x11] st g mi mr Q = tw_E sc d 172 11 [x0, x1, x2, x3, x4, x5, x6, x7, x8, x9, x10, x11] (.long 15 :: st) g mi mr Q := tw_x_ldl td_172_8 to_172 tl_10_232
theorem td_172_11 : decode (tw_cd 172) 11 = .ok (.invokestatic 96, 3) := by decide +kernel
theorem tz_172_11 {a0 : Int64} {a1 : Int64} {a2 : Int64} : tw_E sc (d + 1) 172 11 [x0, x1, x2, x3, x4, x5, x6, x7, x8, x9, x10, x11] ([.long a2, .long a1, .long a0]) g mi mr Q = tw_E sc d 126 0 [some (.long a0), none, some (.long a1), none, some (.long a2), none] [] g mi mr (tw_K sc (d + 1) 172 14 [x0, x1, x2, x3, x4, x5, x6, x7, x8, x9, x10, x11] [] Q) := tw_x_cs (as := [.long a0, .long a1, .long a2]) (r := []) td_172_11 to_172 tmn_10_96 tc_10_96 rfl rfl rfl rfl rfl
theorem td_172_14 : decode (tw_cd 172) 14 = .ok (.ifCond .eq 15, 3) := by decide +kernel
theorem tz_172_14 : tw_E sc d 172 14 [x0, x1, x2, x3, x4, x5, x6, x7, x8, x9, x10, x11] (.int v :: st) g mi mr Q = if v = 0 then tw_E sc d 172 29 [x0, x1, x2, x3, x4, x5, x6, x7, x8, x9, x10, x11] st g mi mr Q else tw_E sc d 172 17 [x0, x1, x2, x3, x4, x5, x6, x7, x8, x9, x10, x11] st g mi mr Q := tw_x_if_eq td_172_14 (by decide)
theorem td_172_17 : decode (tw_cd 172) 17 = .ok (.iload_n 2, 1) := by decide +kernel
theorem tz_172_17 : tw_E sc d 172 17 [x0, x1, some (.int v), x3, x4, x5, x6, x7, x8, x9, x10, x11] st g mi mr Q = tw_E sc d 172 18 [x0, x1, some (.int v), x3, x4, x5, x6, x7, x8, x9, x10, x11] (.int v :: st) g mi mr Q := tw_x_iload_n td_172_17 rfl
theorem td_172_18 : decode (tw_cd 172) 18 = .ok (.i2l, 1) := by decide +kernel
theorem tz_172_18 : tw_E sc d 172 18 [x0, x1, x2, x3, x4, x5, x6, x7, x8, x9, x10, x11] (.int v :: st) g mi mr Q = tw_E sc d 172 19 [x0, x1, x2, x3, x4, x5, x6, x7, x8, x9, x10, x11] (.long v.toInt64 :: st) g mi mr Q := tw_x_i2l td_172_18
theorem td_172_19 : decode (tw_cd 172) 19 = .ok (.lconst 0, 1) := by decide +kernel
theorem tz_172_19 : tw_E sc d 172 19 [x0, x1, x2, x3, x4, x5, x6, x7, x8, x9, x10, x11] st g mi mr Q = tw_E sc d 172 20 [x0, x1, x2, x3, x4, x5, x6, x7, x8, x9, x10, x11] (.long 0 :: st) g mi mr Q := tw_x_lconst td_172_19 (by decide)
theorem td_172_20 : decode (tw_cd 172) 20 = .ok (.ldc2_w 232, 3) := by decide +kernel
theorem tz_172_20 : tw_E sc d 172 20 [x0, x1, x2, x3, x4, x5, x6, x7, x8, x9, x10, x11] st g mi mr Q = tw_E sc d 172 23 [x0, x1, x2, x3, x4, x5, x6, x7, x8, x9, x10, x11] (.long 15 :: st) g mi mr Q := tw_x_ldl td_172_20 to_172 tl_10_232
theorem td_172_23 : decode (tw_cd 172) 23 = .ok (.invokestatic 96, 3) := by decide +kernel
theorem tz_172_23 {a0 : Int64} {a1 : Int64} {a2 : Int64} : tw_E sc (d + 1) 172 23 [x0, x1, x2, x3, x4, x5, x6, x7, x8, x9, x10, x11] ([.long a2, .long a1, .long a0]) g mi mr Q = tw_E sc d 126 0 [some (.long a0), none, some (.long a1), none, some (.long a2), none] [] g mi mr (tw_K sc (d + 1) 172 26 [x0, x1, x2, x3, x4, x5, x6, x7, x8, x9, x10, x11] [] Q) := tw_x_cs (as := [.long a0, .long a1, .long a2]) (r := []) td_172_23 to_172 tmn_10_96 tc_10_96 rfl rfl rfl rfl rfl
theorem td_172_26 : decode (tw_cd 172) 26 = .ok (.ifCond .ne 5, 3) := by decide +kernel
theorem tz_172_26 : tw_E sc d 172 26 [x0, x1, x2, x3, x4, x5, x6, x7, x8, x9, x10, x11] (.int v :: st) g mi mr Q = if ¬ v = 0 then tw_E sc d 172 31 [x0, x1, x2, x3, x4, x5, x6, x7, x8, x9, x10, x11] st g mi mr Q else tw_E sc d 172 29 [x0, x1, x2, x3, x4, x5, x6, x7, x8, x9, x10, x11] st g mi mr Q := tw_x_if_ne td_172_26 (by decide)
theorem td_172_29 : decode (tw_cd 172) 29 = .ok (.iconst (-1), 1) := by decide +kernel
theorem tz_172_29 : tw_E sc d 172 29 [x0, x1, x2, x3, x4, x5, x6, x7, x8, x9, x10, x11] st g mi mr Q = tw_E sc d 172 30 [x0, x1, x2, x3, x4, x5, x6, x7, x8, x9, x10, x11] (.int (-1) :: st) g mi mr Q := tw_x_iconst td_172_29 (by decide)
theorem td_172_30 : decode (tw_cd 172) 30 = .ok (.ireturn, 1) := by decide +kernel
theorem tz_172_30 : tw_E sc d 172 30 [x0, x1, x2, x3, x4, x5, x6, x7, x8, x9, x10, x11] ([.int v]) g mi mr Q = Q (some (.int v)) g mi mr := tw_x_iret td_172_30 tr_172
theorem td_172_31 : decode (tw_cd 172) 31 = .ok (.iload_n 1, 1) := by decide +kernel
theorem tz_172_31 : tw_E sc d 172 31 [x0, some (.int v), x2, x3, x4, x5, x6, x7, x8, x9, x10, x11] st g mi mr Q = tw_E sc d 172 32 [x0, some (.int v), x2, x3, x4, x5, x6, x7, x8, x9, x10, x11] (.int v :: st) g mi mr Q := tw_x_iload_n td_172_31 rfl
theorem td_172_32 : decode (tw_cd 172) 32 = .ok (.iload_n 2, 1) := by decide +kernel
theorem tz_172_32 : tw_E sc d 172 32 [x0, x1, some (.int v), x3, x4, x5, x6, x7, x8, x9, x10, x11] st g mi mr Q = tw_E sc d 172 33 [x0, x1, some (.int v), x3, x4, x5, x6, x7, x8, x9, x10, x11] (.int v :: st) g mi mr Q := tw_x_iload_n td_172_32 rfl
theorem td_172_33 : decode (tw_cd 172) 33 = .ok (.if_icmp .eq 15, 3) := by decide +kernel
theorem tz_172_33 : tw_E sc d 172 33 [x0, x1, x2, x3, x4, x5, x6, x7, x8, x9, x10, x11] (.int w :: .int v :: st) g mi mr Q = if v = w then tw_E sc d 172 48 [x0, x1, x2, x3, x4, x5, x6, x7, x8, x9, x10, x11] st g mi mr Q else tw_E sc d 172 36 [x0, x1, x2, x3, x4, x5, x6, x7, x8, x9, x10, x11] st g mi mr Q := tw_x_ic_eq td_172_33 (by decide)
theorem td_172_36 : decode (tw_cd 172) 36 = .ok (.iload_n 3, 1) := by decide +kernel
theorem tz_172_36 : tw_E sc d 172 36 [x0, x1, x2, some (.int v), x4, x5, x6, x7, x8, x9, x10, x11] st g mi mr Q = tw_E sc d 172 37 [x0, x1, x2, some (.int v), x4, x5, x6, x7, x8, x9, x10, x11] (.int v :: st) g mi mr Q := tw_x_iload_n td_172_36 rfl
theorem td_172_37 : decode (tw_cd 172) 37 = .ok (.i2l, 1) := by decide +kernel
theorem tz_172_37 : tw_E sc d 172 37 [x0, x1, x2, x3, x4, x5, x6, x7, x8, x9, x10, x11] (.int v :: st) g mi mr Q = tw_E sc d 172 38 [x0, x1, x2, x3, x4, x5, x6, x7, x8, x9, x10, x11] (.long v.toInt64 :: st) g mi mr Q := tw_x_i2l td_172_37
theorem td_172_38 : decode (tw_cd 172) 38 = .ok (.lconst 0, 1) := by decide +kernel
theorem tz_172_38 : tw_E sc d 172 38 [x0, x1, x2, x3, x4, x5, x6, x7, x8, x9, x10, x11] st g mi mr Q = tw_E sc d 172 39 [x0, x1, x2, x3, x4, x5, x6, x7, x8, x9, x10, x11] (.long 0 :: st) g mi mr Q := tw_x_lconst td_172_38 (by decide)
theorem td_172_39 : decode (tw_cd 172) 39 = .ok (.ldc2_w 87, 3) := by decide +kernel
theorem tz_172_39 : tw_E sc d 172 39 [x0, x1, x2, x3, x4, x5, x6, x7, x8, x9, x10, x11] st g mi mr Q = tw_E sc d 172 42 [x0, x1, x2, x3, x4, x5, x6, x7, x8, x9, x10, x11] (.long 255 :: st) g mi mr Q := tw_x_ldl td_172_39 to_172 tl_10_87
theorem td_172_42 : decode (tw_cd 172) 42 = .ok (.invokestatic 96, 3) := by decide +kernel
theorem tz_172_42 {a0 : Int64} {a1 : Int64} {a2 : Int64} : tw_E sc (d + 1) 172 42 [x0, x1, x2, x3, x4, x5, x6, x7, x8, x9, x10, x11] ([.long a2, .long a1, .long a0]) g mi mr Q = tw_E sc d 126 0 [some (.long a0), none, some (.long a1), none, some (.long a2), none] [] g mi mr (tw_K sc (d + 1) 172 45 [x0, x1, x2, x3, x4, x5, x6, x7, x8, x9, x10, x11] [] Q) := tw_x_cs (as := [.long a0, .long a1, .long a2]) (r := []) td_172_42 to_172 tmn_10_96 tc_10_96 rfl rfl rfl rfl rfl
theorem td_172_45 : decode (tw_cd 172) 45 = .ok (.ifCond .ne 6, 3) := by decide +kernel
theorem tz_172_45 : tw_E sc d 172 45 [x0, x1, x2, x3, x4, x5, x6, x7, x8, x9, x10, x11] (.int v :: st) g mi mr Q = if ¬ v = 0 then tw_E sc d 172 51 [x0, x1, x2, x3, x4, x5, x6, x7, x8, x9, x10, x11] st g mi mr Q else tw_E sc d 172 48 [x0, x1, x2, x3, x4, x5, x6, x7, x8, x9, x10, x11] st g mi mr Q := tw_x_if_ne td_172_45 (by decide)
theorem td_172_48 : decode (tw_cd 172) 48 = .ok (.bipush (-2), 2) := by decide +kernel
theorem tz_172_48 : tw_E sc d 172 48 [x0, x1, x2, x3, x4, x5, x6, x7, x8, x9, x10, x11] st g mi mr Q = tw_E sc d 172 50 [x0, x1, x2, x3, x4, x5, x6, x7, x8, x9, x10, x11] (.int (-2) :: st) g mi mr Q := tw_x_bipush td_172_48 (by decide)
theorem td_172_50 : decode (tw_cd 172) 50 = .ok (.ireturn, 1) := by decide +kernel
theorem tz_172_50 : tw_E sc d 172 50 [x0, x1, x2, x3, x4, x5, x6, x7, x8, x9, x10, x11] ([.int v]) g mi mr Q = Q (some (.int v)) g mi mr := tw_x_iret td_172_50 tr_172
theorem td_172_51 : decode (tw_cd 172) 51 = .ok (.aload_n 0, 1) := by decide +kernel
theorem tz_172_51 : tw_E sc d 172 51 [some (.ref a), x1, x2, x3, x4, x5, x6, x7, x8, x9, x10, x11] st g mi mr Q = tw_E sc d 172 52 [some (.ref a), x1, x2, x3, x4, x5, x6, x7, x8, x9, x10, x11] (.ref a :: st) g mi mr Q := tw_x_aload_n td_172_51 rfl
theorem td_172_52 : decode (tw_cd 172) 52 = .ok (.getfield 179, 3) := by decide +kernel
theorem tz_172_52 : tw_E sc d 172 52 [x0, x1, x2, x3, x4, x5, x6, x7, x8, x9, x10, x11] (.ref a :: st) g mi mr Q = (tw_kd g a = 10 ∧ tw_E sc d 172 55 [x0, x1, x2, x3, x4, x5, x6, x7, x8, x9, x10, x11] (.int (mi a 4) :: st) g mi mr Q) := tw_x_geti td_172_52 to_172 tf_10_179 (trf_10_4)
theorem td_172_55 : decode (tw_cd 172) 55 = .ok (.ifCond .ne 6, 3) := by decide +kernel
theorem tz_172_55 : tw_E sc d 172 55 [x0, x1, x2, x3, x4, x5, x6, x7, x8, x9, x10, x11] (.int v :: st) g mi mr Q = if ¬ v = 0 then tw_E sc d 172 61 [x0, x1, x2, x3, x4, x5, x6, x7, x8, x9, x10, x11] st g mi mr Q else tw_E sc d 172 58 [x0, x1, x2, x3, x4, x5, x6, x7, x8, x9, x10, x11] st g mi mr Q := tw_x_if_ne td_172_55 (by decide)
theorem td_172_58 : decode (tw_cd 172) 58 = .ok (.bipush (-3), 2) := by decide +kernel
theorem tz_172_58 : tw_E sc d 172 58 [x0, x1, x2, x3, x4, x5, x6, x7, x8, x9, x10, x11] st g mi mr Q = tw_E sc d 172 60 [x0, x1, x2, x3, x4, x5, x6, x7, x8, x9, x10, x11] (.int (-3) :: st) g mi mr Q := tw_x_bipush td_172_58 (by decide)
theorem td_172_60 : decode (tw_cd 172) 60 = .ok (.ireturn, 1) := by decide +kernel
theorem tz_172_60 : tw_E sc d 172 60 [x0, x1, x2, x3, x4, x5, x6, x7, x8, x9, x10, x11] ([.int v]) g mi mr Q = Q (some (.int v)) g mi mr := tw_x_iret td_172_60 tr_172
theorem td_172_61 : decode (tw_cd 172) 61 = .ok (.aload_n 0, 1) := by decide +kernel
theorem tz_172_61 : tw_E sc d 172 61 [some (.ref a), x1, x2, x3, x4, x5, x6, x7, x8, x9, x10, x11] st g mi mr Q = tw_E sc d 172 62 [some (.ref a), x1, x2, x3, x4, x5, x6, x7, x8, x9, x10, x11] (.ref a :: st) g mi mr Q := tw_x_aload_n td_172_61 rfl
theorem td_172_62 : decode (tw_cd 172) 62 = .ok (.getfield 185, 3) := by decide +kernel
theorem tz_172_62 : tw_E sc d 172 62 [x0, x1, x2, x3, x4, x5, x6, x7, x8, x9, x10, x11] (.ref a :: st) g mi mr Q = (tw_kd g a = 10 ∧ tw_E sc d 172 65 [x0, x1, x2, x3, x4, x5, x6, x7, x8, x9, x10, x11] (.int (mi a 20) :: st) g mi mr Q) := tw_x_geti td_172_62 to_172 tf_10_185 (trf_10_20)
theorem td_172_65 : decode (tw_cd 172) 65 = .ok (.bipush 24, 2) := by decide +kernel
theorem tz_172_65 : tw_E sc d 172 65 [x0, x1, x2, x3, x4, x5, x6, x7, x8, x9, x10, x11] st g mi mr Q = tw_E sc d 172 67 [x0, x1, x2, x3, x4, x5, x6, x7, x8, x9, x10, x11] (.int 24 :: st) g mi mr Q := tw_x_bipush td_172_65 (by decide)
theorem td_172_67 : decode (tw_cd 172) 67 = .ok (.iadd, 1) := by decide +kernel
theorem tz_172_67 : tw_E sc d 172 67 [x0, x1, x2, x3, x4, x5, x6, x7, x8, x9, x10, x11] (.int w :: .int v :: st) g mi mr Q = tw_E sc d 172 68 [x0, x1, x2, x3, x4, x5, x6, x7, x8, x9, x10, x11] (.int (v + w) :: st) g mi mr Q := tw_x_iadd td_172_67
theorem td_172_68 : decode (tw_cd 172) 68 = .ok (.iload 4, 2) := by decide +kernel
theorem tz_172_68 : tw_E sc d 172 68 [x0, x1, x2, x3, some (.int v), x5, x6, x7, x8, x9, x10, x11] st g mi mr Q = tw_E sc d 172 70 [x0, x1, x2, x3, some (.int v), x5, x6, x7, x8, x9, x10, x11] (.int v :: st) g mi mr Q := tw_x_iload td_172_68 rfl
theorem td_172_70 : decode (tw_cd 172) 70 = .ok (.ifCond .eq 7, 3) := by decide +kernel
theorem tz_172_70 : tw_E sc d 172 70 [x0, x1, x2, x3, x4, x5, x6, x7, x8, x9, x10, x11] (.int v :: st) g mi mr Q = if v = 0 then tw_E sc d 172 77 [x0, x1, x2, x3, x4, x5, x6, x7, x8, x9, x10, x11] st g mi mr Q else tw_E sc d 172 73 [x0, x1, x2, x3, x4, x5, x6, x7, x8, x9, x10, x11] st g mi mr Q := tw_x_if_eq td_172_70 (by decide)
theorem td_172_73 : decode (tw_cd 172) 73 = .ok (.iconst 3, 1) := by decide +kernel
theorem tz_172_73 : tw_E sc d 172 73 [x0, x1, x2, x3, x4, x5, x6, x7, x8, x9, x10, x11] st g mi mr Q = tw_E sc d 172 74 [x0, x1, x2, x3, x4, x5, x6, x7, x8, x9, x10, x11] (.int 3 :: st) g mi mr Q := tw_x_iconst td_172_73 (by decide)
theorem td_172_74 : decode (tw_cd 172) 74 = .ok (.goto 4, 3) := by decide +kernel
theorem tz_172_74 : tw_E sc d 172 74 [x0, x1, x2, x3, x4, x5, x6, x7, x8, x9, x10, x11] st g mi mr Q = tw_E sc d 172 78 [x0, x1, x2, x3, x4, x5, x6, x7, x8, x9, x10, x11] st g mi mr Q := tw_x_goto td_172_74 (by decide)
theorem td_172_77 : decode (tw_cd 172) 77 = .ok (.iconst 0, 1) := by decide +kernel
theorem tz_172_77 : tw_E sc d 172 77 [x0, x1, x2, x3, x4, x5, x6, x7, x8, x9, x10, x11] st g mi mr Q = tw_E sc d 172 78 [x0, x1, x2, x3, x4, x5, x6, x7, x8, x9, x10, x11] (.int 0 :: st) g mi mr Q := tw_x_iconst td_172_77 (by decide)
theorem td_172_78 : decode (tw_cd 172) 78 = .ok (.iadd, 1) := by decide +kernel
theorem tz_172_78 : tw_E sc d 172 78 [x0, x1, x2, x3, x4, x5, x6, x7, x8, x9, x10, x11] (.int w :: .int v :: st) g mi mr Q = tw_E sc d 172 79 [x0, x1, x2, x3, x4, x5, x6, x7, x8, x9, x10, x11] (.int (v + w) :: st) g mi mr Q := tw_x_iadd td_172_78
theorem td_172_79 : decode (tw_cd 172) 79 = .ok (.iload 5, 2) := by decide +kernel
theorem tz_172_79 : tw_E sc d 172 79 [x0, x1, x2, x3, x4, some (.int v), x6, x7, x8, x9, x10, x11] st g mi mr Q = tw_E sc d 172 81 [x0, x1, x2, x3, x4, some (.int v), x6, x7, x8, x9, x10, x11] (.int v :: st) g mi mr Q := tw_x_iload td_172_79 rfl
theorem td_172_81 : decode (tw_cd 172) 81 = .ok (.ifCond .eq 7, 3) := by decide +kernel
theorem tz_172_81 : tw_E sc d 172 81 [x0, x1, x2, x3, x4, x5, x6, x7, x8, x9, x10, x11] (.int v :: st) g mi mr Q = if v = 0 then tw_E sc d 172 88 [x0, x1, x2, x3, x4, x5, x6, x7, x8, x9, x10, x11] st g mi mr Q else tw_E sc d 172 84 [x0, x1, x2, x3, x4, x5, x6, x7, x8, x9, x10, x11] st g mi mr Q := tw_x_if_eq td_172_81 (by decide)
theorem td_172_84 : decode (tw_cd 172) 84 = .ok (.iconst 3, 1) := by decide +kernel
theorem tz_172_84 : tw_E sc d 172 84 [x0, x1, x2, x3, x4, x5, x6, x7, x8, x9, x10, x11] st g mi mr Q = tw_E sc d 172 85 [x0, x1, x2, x3, x4, x5, x6, x7, x8, x9, x10, x11] (.int 3 :: st) g mi mr Q := tw_x_iconst td_172_84 (by decide)
theorem td_172_85 : decode (tw_cd 172) 85 = .ok (.goto 4, 3) := by decide +kernel
theorem tz_172_85 : tw_E sc d 172 85 [x0, x1, x2, x3, x4, x5, x6, x7, x8, x9, x10, x11] st g mi mr Q = tw_E sc d 172 89 [x0, x1, x2, x3, x4, x5, x6, x7, x8, x9, x10, x11] st g mi mr Q := tw_x_goto td_172_85 (by decide)
theorem td_172_88 : decode (tw_cd 172) 88 = .ok (.iconst 0, 1) := by decide +kernel
theorem tz_172_88 : tw_E sc d 172 88 [x0, x1, x2, x3, x4, x5, x6, x7, x8, x9, x10, x11] st g mi mr Q = tw_E sc d 172 89 [x0, x1, x2, x3, x4, x5, x6, x7, x8, x9, x10, x11] (.int 0 :: st) g mi mr Q := tw_x_iconst td_172_88 (by decide)
theorem td_172_89 : decode (tw_cd 172) 89 = .ok (.iadd, 1) := by decide +kernel
theorem tz_172_89 : tw_E sc d 172 89 [x0, x1, x2, x3, x4, x5, x6, x7, x8, x9, x10, x11] (.int w :: .int v :: st) g mi mr Q = tw_E sc d 172 90 [x0, x1, x2, x3, x4, x5, x6, x7, x8, x9, x10, x11] (.int (v + w) :: st) g mi mr Q := tw_x_iadd td_172_89
theorem td_172_90 : decode (tw_cd 172) 90 = .ok (.sipush 4000, 3) := by decide +kernel
theorem tz_172_90 : tw_E sc d 172 90 [x0, x1, x2, x3, x4, x5, x6, x7, x8, x9, x10, x11] st g mi mr Q = tw_E sc d 172 93 [x0, x1, x2, x3, x4, x5, x6, x7, x8, x9, x10, x11] (.int 4000 :: st) g mi mr Q := tw_x_sipush td_172_90 (by decide)
theorem td_172_93 : decode (tw_cd 172) 93 = .ok (.if_icmp .le 6, 3) := by decide +kernel
theorem tz_172_93 : tw_E sc d 172 93 [x0, x1, x2, x3, x4, x5, x6, x7, x8, x9, x10, x11] (.int w :: .int v :: st) g mi mr Q = if v ≤ w then tw_E sc d 172 99 [x0, x1, x2, x3, x4, x5, x6, x7, x8, x9, x10, x11] st g mi mr Q else tw_E sc d 172 96 [x0, x1, x2, x3, x4, x5, x6, x7, x8, x9, x10, x11] st g mi mr Q := tw_x_ic_le td_172_93 (by decide)
theorem td_172_96 : decode (tw_cd 172) 96 = .ok (.bipush (-4), 2) := by decide +kernel
theorem tz_172_96 : tw_E sc d 172 96 [x0, x1, x2, x3, x4, x5, x6, x7, x8, x9, x10, x11] st g mi mr Q = tw_E sc d 172 98 [x0, x1, x2, x3, x4, x5, x6, x7, x8, x9, x10, x11] (.int (-4) :: st) g mi mr Q := tw_x_bipush td_172_96 (by decide)
theorem td_172_98 : decode (tw_cd 172) 98 = .ok (.ireturn, 1) := by decide +kernel
theorem tz_172_98 : tw_E sc d 172 98 [x0, x1, x2, x3, x4, x5, x6, x7, x8, x9, x10, x11] ([.int v]) g mi mr Q = Q (some (.int v)) g mi mr := tw_x_iret td_172_98 tr_172
theorem td_172_99 : decode (tw_cd 172) 99 = .ok (.iconst 1, 1) := by decide +kernel
theorem tz_172_99 : tw_E sc d 172 99 [x0, x1, x2, x3, x4, x5, x6, x7, x8, x9, x10, x11] st g mi mr Q = tw_E sc d 172 100 [x0, x1, x2, x3, x4, x5, x6, x7, x8, x9, x10, x11] (.int 1 :: st) g mi mr Q := tw_x_iconst td_172_99 (by decide)
theorem td_172_100 : decode (tw_cd 172) 100 = .ok (.iload_n 1, 1) := by decide +kernel
theorem tz_172_100 : tw_E sc d 172 100 [x0, some (.int v), x2, x3, x4, x5, x6, x7, x8, x9, x10, x11] st g mi mr Q = tw_E sc d 172 101 [x0, some (.int v), x2, x3, x4, x5, x6, x7, x8, x9, x10, x11] (.int v :: st) g mi mr Q := tw_x_iload_n td_172_100 rfl
theorem td_172_101 : decode (tw_cd 172) 101 = .ok (.ishl, 1) := by decide +kernel
theorem tz_172_101 : tw_E sc d 172 101 [x0, x1, x2, x3, x4, x5, x6, x7, x8, x9, x10, x11] (.int w :: .int v :: st) g mi mr Q = tw_E sc d 172 102 [x0, x1, x2, x3, x4, x5, x6, x7, x8, x9, x10, x11] (.int (v <<< (w &&& 31)) :: st) g mi mr Q := tw_x_ishl td_172_101
theorem td_172_102 : decode (tw_cd 172) 102 = .ok (.istore 6, 2) := by decide +kernel
theorem tz_172_102 : tw_E sc d 172 102 [x0, x1, x2, x3, x4, x5, x6, x7, x8, x9, x10, x11] (.int v :: st) g mi mr Q = tw_E sc d 172 104 [x0, x1, x2, x3, x4, x5, some (.int v), x7, x8, x9, x10, x11] st g mi mr Q := tw_x_istore td_172_102 tp_172 rfl
theorem td_172_104 : decode (tw_cd 172) 104 = .ok (.iconst 1, 1) := by decide +kernel
theorem tz_172_104 : tw_E sc d 172 104 [x0, x1, x2, x3, x4, x5, x6, x7, x8, x9, x10, x11] st g mi mr Q = tw_E sc d 172 105 [x0, x1, x2, x3, x4, x5, x6, x7, x8, x9, x10, x11] (.int 1 :: st) g mi mr Q := tw_x_iconst td_172_104 (by decide)
theorem td_172_105 : decode (tw_cd 172) 105 = .ok (.iload_n 2, 1) := by decide +kernel
theorem tz_172_105 : tw_E sc d 172 105 [x0, x1, some (.int v), x3, x4, x5, x6, x7, x8, x9, x10, x11] st g mi mr Q = tw_E sc d 172 106 [x0, x1, some (.int v), x3, x4, x5, x6, x7, x8, x9, x10, x11] (.int v :: st) g mi mr Q := tw_x_iload_n td_172_105 rfl
theorem td_172_106 : decode (tw_cd 172) 106 = .ok (.ishl, 1) := by decide +kernel
theorem tz_172_106 : tw_E sc d 172 106 [x0, x1, x2, x3, x4, x5, x6, x7, x8, x9, x10, x11] (.int w :: .int v :: st) g mi mr Q = tw_E sc d 172 107 [x0, x1, x2, x3, x4, x5, x6, x7, x8, x9, x10, x11] (.int (v <<< (w &&& 31)) :: st) g mi mr Q := tw_x_ishl td_172_106
theorem td_172_107 : decode (tw_cd 172) 107 = .ok (.istore 7, 2) := by decide +kernel
theorem tz_172_107 : tw_E sc d 172 107 [x0, x1, x2, x3, x4, x5, x6, x7, x8, x9, x10, x11] (.int v :: st) g mi mr Q = tw_E sc d 172 109 [x0, x1, x2, x3, x4, x5, x6, some (.int v), x8, x9, x10, x11] st g mi mr Q := tw_x_istore td_172_107 tp_172 rfl
theorem td_172_109 : decode (tw_cd 172) 109 = .ok (.aload_n 0, 1) := by decide +kernel
theorem tz_172_109 : tw_E sc d 172 109 [some (.ref a), x1, x2, x3, x4, x5, x6, x7, x8, x9, x10, x11] st g mi mr Q = tw_E sc d 172 110 [some (.ref a), x1, x2, x3, x4, x5, x6, x7, x8, x9, x10, x11] (.ref a :: st) g mi mr Q := tw_x_aload_n td_172_109 rfl
theorem td_172_110 : decode (tw_cd 172) 110 = .ok (.iload 6, 2) := by decide +kernel
theorem tz_172_110 : tw_E sc d 172 110 [x0, x1, x2, x3, x4, x5, some (.int v), x7, x8, x9, x10, x11] st g mi mr Q = tw_E sc d 172 112 [x0, x1, x2, x3, x4, x5, some (.int v), x7, x8, x9, x10, x11] (.int v :: st) g mi mr Q := tw_x_iload td_172_110 rfl
theorem td_172_112 : decode (tw_cd 172) 112 = .ok (.iload 7, 2) := by decide +kernel
theorem tz_172_112 : tw_E sc d 172 112 [x0, x1, x2, x3, x4, x5, x6, some (.int v), x8, x9, x10, x11] st g mi mr Q = tw_E sc d 172 114 [x0, x1, x2, x3, x4, x5, x6, some (.int v), x8, x9, x10, x11] (.int v :: st) g mi mr Q := tw_x_iload td_172_112 rfl
theorem td_172_114 : decode (tw_cd 172) 114 = .ok (.ior, 1) := by decide +kernel
theorem tz_172_114 : tw_E sc d 172 114 [x0, x1, x2, x3, x4, x5, x6, x7, x8, x9, x10, x11] (.int w :: .int v :: st) g mi mr Q = tw_E sc d 172 115 [x0, x1, x2, x3, x4, x5, x6, x7, x8, x9, x10, x11] (.int (v ||| w) :: st) g mi mr Q := tw_x_ior td_172_114
theorem td_172_115 : decode (tw_cd 172) 115 = .ok (.invokevirtual 243, 3) := by decide +kernel
theorem tz_172_115 {a0 : Int32} : tw_E sc (d + 1) 172 115 [x0, x1, x2, x3, x4, x5, x6, x7, x8, x9, x10, x11] ([.int a0, .ref a]) g mi mr Q = (tw_kd g a = 10 ∧ tw_E sc d 170 0 [some (.ref a), some (.int a0)] [] g mi mr (tw_K sc (d + 1) 172 118 [x0, x1, x2, x3, x4, x5, x6, x7, x8, x9, x10, x11] [] Q)) := tw_x_cv (as := [.int a0]) (r := []) td_172_115 to_172 tc_10_243 to_170 rfl rfl rfl rfl
theorem td_172_118 : decode (tw_cd 172) 118 = .ok (.istore 8, 2) := by decide +kernel
theorem tz_172_118 : tw_E sc d 172 118 [x0, x1, x2, x3, x4, x5, x6, x7, x8, x9, x10, x11] (.int v :: st) g mi mr Q = tw_E sc d 172 120 [x0, x1, x2, x3, x4, x5, x6, x7, some (.int v), x9, x10, x11] st g mi mr Q := tw_x_istore td_172_118 tp_172 rfl
theorem td_172_120 : decode (tw_cd 172) 120 = .ok (.iconst 0, 1) := by decide +kernel
theorem tz_172_120 : tw_E sc d 172 120 [x0, x1, x2, x3, x4, x5, x6, x7, x8, x9, x10, x11] st g mi mr Q = tw_E sc d 172 121 [x0, x1, x2, x3, x4, x5, x6, x7, x8, x9, x10, x11] (.int 0 :: st) g mi mr Q := tw_x_iconst td_172_120 (by decide)
theorem td_172_121 : decode (tw_cd 172) 121 = .ok (.istore 9, 2) := by decide +kernel
theorem tz_172_121 : tw_E sc d 172 121 [x0, x1, x2, x3, x4, x5, x6, x7, x8, x9, x10, x11] (.int v :: st) g mi mr Q = tw_E sc d 172 123 [x0, x1, x2, x3, x4, x5, x6, x7, x8, some (.int v), x10, x11] st g mi mr Q := tw_x_istore td_172_121 tp_172 rfl
theorem td_172_123 : decode (tw_cd 172) 123 = .ok (.iload 4, 2) := by decide +kernel
theorem tz_172_123 : tw_E sc d 172 123 [x0, x1, x2, x3, some (.int v), x5, x6, x7, x8, x9, x10, x11] st g mi mr Q = tw_E sc d 172 125 [x0, x1, x2, x3, some (.int v), x5, x6, x7, x8, x9, x10, x11] (.int v :: st) g mi mr Q := tw_x_iload td_172_123 rfl
theorem td_172_125 : decode (tw_cd 172) 125 = .ok (.ifCond .eq 45, 3) := by decide +kernel
theorem tz_172_125 : tw_E sc d 172 125 [x0, x1, x2, x3, x4, x5, x6, x7, x8, x9, x10, x11] (.int v :: st) g mi mr Q = if v = 0 then tw_E sc d 172 170 [x0, x1, x2, x3, x4, x5, x6, x7, x8, x9, x10, x11] st g mi mr Q else tw_E sc d 172 128 [x0, x1, x2, x3, x4, x5, x6, x7, x8, x9, x10, x11] st g mi mr Q := tw_x_if_eq td_172_125 (by decide)
theorem td_172_128 : decode (tw_cd 172) 128 = .ok (.iload 9, 2) := by decide +kernel
theorem tz_172_128 : tw_E sc d 172 128 [x0, x1, x2, x3, x4, x5, x6, x7, x8, some (.int v), x10, x11] st g mi mr Q = tw_E sc d 172 130 [x0, x1, x2, x3, x4, x5, x6, x7, x8, some (.int v), x10, x11] (.int v :: st) g mi mr Q := tw_x_iload td_172_128 rfl
theorem td_172_130 : decode (tw_cd 172) 130 = .ok (.aload_n 0, 1) := by decide +kernel
theorem tz_172_130 : tw_E sc d 172 130 [some (.ref a), x1, x2, x3, x4, x5, x6, x7, x8, x9, x10, x11] st g mi mr Q = tw_E sc d 172 131 [some (.ref a), x1, x2, x3, x4, x5, x6, x7, x8, x9, x10, x11] (.ref a :: st) g mi mr Q := tw_x_aload_n td_172_130 rfl
theorem td_172_131 : decode (tw_cd 172) 131 = .ok (.iload 8, 2) := by decide +kernel
theorem tz_172_131 : tw_E sc d 172 131 [x0, x1, x2, x3, x4, x5, x6, x7, some (.int v), x9, x10, x11] st g mi mr Q = tw_E sc d 172 133 [x0, x1, x2, x3, x4, x5, x6, x7, some (.int v), x9, x10, x11] (.int v :: st) g mi mr Q := tw_x_iload td_172_131 rfl
theorem td_172_133 : decode (tw_cd 172) 133 = .ok (.iload 6, 2) := by decide +kernel
theorem tz_172_133 : tw_E sc d 172 133 [x0, x1, x2, x3, x4, x5, some (.int v), x7, x8, x9, x10, x11] st g mi mr Q = tw_E sc d 172 135 [x0, x1, x2, x3, x4, x5, some (.int v), x7, x8, x9, x10, x11] (.int v :: st) g mi mr Q := tw_x_iload td_172_133 rfl
theorem td_172_135 : decode (tw_cd 172) 135 = .ok (.ior, 1) := by decide +kernel
theorem tz_172_135 : tw_E sc d 172 135 [x0, x1, x2, x3, x4, x5, x6, x7, x8, x9, x10, x11] (.int w :: .int v :: st) g mi mr Q = tw_E sc d 172 136 [x0, x1, x2, x3, x4, x5, x6, x7, x8, x9, x10, x11] (.int (v ||| w) :: st) g mi mr Q := tw_x_ior td_172_135
theorem td_172_136 : decode (tw_cd 172) 136 = .ok (.iload 7, 2) := by decide +kernel
theorem tz_172_136 : tw_E sc d 172 136 [x0, x1, x2, x3, x4, x5, x6, some (.int v), x8, x9, x10, x11] st g mi mr Q = tw_E sc d 172 138 [x0, x1, x2, x3, x4, x5, x6, some (.int v), x8, x9, x10, x11] (.int v :: st) g mi mr Q := tw_x_iload td_172_136 rfl
theorem td_172_138 : decode (tw_cd 172) 138 = .ok (.ior, 1) := by decide +kernel
theorem tz_172_138 : tw_E sc d 172 138 [x0, x1, x2, x3, x4, x5, x6, x7, x8, x9, x10, x11] (.int w :: .int v :: st) g mi mr Q = tw_E sc d 172 139 [x0, x1, x2, x3, x4, x5, x6, x7, x8, x9, x10, x11] (.int (v ||| w) :: st) g mi mr Q := tw_x_ior td_172_138
theorem td_172_139 : decode (tw_cd 172) 139 = .ok (.invokevirtual 207, 3) := by decide +kernel
theorem tz_172_139 {a0 : Int32} : tw_E sc (d + 1) 172 139 [x0, x1, x2, x3, x4, x5, x6, x7, x8, x9, x10, x11] ([.int a0, .ref a, s1]) g mi mr Q = (tw_kd g a = 10 ∧ tw_E sc d 149 0 [some (.ref a), some (.int a0), none] [] g mi mr (tw_K sc (d + 1) 172 142 [x0, x1, x2, x3, x4, x5, x6, x7, x8, x9, x10, x11] [s1] Q)) := tw_x_cv (as := [.int a0]) (r := [s1]) td_172_139 to_172 tc_10_207 to_149 rfl rfl rfl rfl
theorem td_172_142 : decode (tw_cd 172) 142 = .ok (.iadd, 1) := by decide +kernel
theorem tz_172_142 : tw_E sc d 172 142 [x0, x1, x2, x3, x4, x5, x6, x7, x8, x9, x10, x11] (.int w :: .int v :: st) g mi mr Q = tw_E sc d 172 143 [x0, x1, x2, x3, x4, x5, x6, x7, x8, x9, x10, x11] (.int (v + w) :: st) g mi mr Q := tw_x_iadd td_172_142
theorem td_172_143 : decode (tw_cd 172) 143 = .ok (.istore 9, 2) := by decide +kernel
theorem tz_172_143 : tw_E sc d 172 143 [x0, x1, x2, x3, x4, x5, x6, x7, x8, x9, x10, x11] (.int v :: st) g mi mr Q = tw_E sc d 172 145 [x0, x1, x2, x3, x4, x5, x6, x7, x8, some (.int v), x10, x11] st g mi mr Q := tw_x_istore td_172_143 tp_172 rfl
theorem td_172_145 : decode (tw_cd 172) 145 = .ok (.iload 9, 2) := by decide +kernel
theorem tz_172_145 : tw_E sc d 172 145 [x0, x1, x2, x3, x4, x5, x6, x7, x8, some (.int v), x10, x11] st g mi mr Q = tw_E sc d 172 147 [x0, x1, x2, x3, x4, x5, x6, x7, x8, some (.int v), x10, x11] (.int v :: st) g mi mr Q := tw_x_iload td_172_145 rfl
theorem td_172_147 : decode (tw_cd 172) 147 = .ok (.aload_n 0, 1) := by decide +kernel
theorem tz_172_147 : tw_E sc d 172 147 [some (.ref a), x1, x2, x3, x4, x5, x6, x7, x8, x9, x10, x11] st g mi mr Q = tw_E sc d 172 148 [some (.ref a), x1, x2, x3, x4, x5, x6, x7, x8, x9, x10, x11] (.ref a :: st) g mi mr Q := tw_x_aload_n td_172_147 rfl
theorem td_172_148 : decode (tw_cd 172) 148 = .ok (.iload 8, 2) := by decide +kernel
theorem tz_172_148 : tw_E sc d 172 148 [x0, x1, x2, x3, x4, x5, x6, x7, some (.int v), x9, x10, x11] st g mi mr Q = tw_E sc d 172 150 [x0, x1, x2, x3, x4, x5, x6, x7, some (.int v), x9, x10, x11] (.int v :: st) g mi mr Q := tw_x_iload td_172_148 rfl
theorem td_172_150 : decode (tw_cd 172) 150 = .ok (.iload 6, 2) := by decide +kernel
theorem tz_172_150 : tw_E sc d 172 150 [x0, x1, x2, x3, x4, x5, some (.int v), x7, x8, x9, x10, x11] st g mi mr Q = tw_E sc d 172 152 [x0, x1, x2, x3, x4, x5, some (.int v), x7, x8, x9, x10, x11] (.int v :: st) g mi mr Q := tw_x_iload td_172_150 rfl
theorem td_172_152 : decode (tw_cd 172) 152 = .ok (.ior, 1) := by decide +kernel
theorem tz_172_152 : tw_E sc d 172 152 [x0, x1, x2, x3, x4, x5, x6, x7, x8, x9, x10, x11] (.int w :: .int v :: st) g mi mr Q = tw_E sc d 172 153 [x0, x1, x2, x3, x4, x5, x6, x7, x8, x9, x10, x11] (.int (v ||| w) :: st) g mi mr Q := tw_x_ior td_172_152
theorem td_172_153 : decode (tw_cd 172) 153 = .ok (.invokevirtual 207, 3) := by decide +kernel
theorem tz_172_153 {a0 : Int32} : tw_E sc (d + 1) 172 153 [x0, x1, x2, x3, x4, x5, x6, x7, x8, x9, x10, x11] ([.int a0, .ref a, s1]) g mi mr Q = (tw_kd g a = 10 ∧ tw_E sc d 149 0 [some (.ref a), some (.int a0), none] [] g mi mr (tw_K sc (d + 1) 172 156 [x0, x1, x2, x3, x4, x5, x6, x7, x8, x9, x10, x11] [s1] Q)) := tw_x_cv (as := [.int a0]) (r := [s1]) td_172_153 to_172 tc_10_207 to_149 rfl rfl rfl rfl
theorem td_172_156 : decode (tw_cd 172) 156 = .ok (.iadd, 1) := by decide +kernel
theorem tz_172_156 : tw_E sc d 172 156 [x0, x1, x2, x3, x4, x5, x6, x7, x8, x9, x10, x11] (.int w :: .int v :: st) g mi mr Q = tw_E sc d 172 157 [x0, x1, x2, x3, x4, x5, x6, x7, x8, x9, x10, x11] (.int (v + w) :: st) g mi mr Q := tw_x_iadd td_172_156
theorem td_172_157 : decode (tw_cd 172) 157 = .ok (.istore 9, 2) := by decide +kernel
theorem tz_172_157 : tw_E sc d 172 157 [x0, x1, x2, x3, x4, x5, x6, x7, x8, x9, x10, x11] (.int v :: st) g mi mr Q = tw_E sc d 172 159 [x0, x1, x2, x3, x4, x5, x6, x7, x8, some (.int v), x10, x11] st g mi mr Q := tw_x_istore td_172_157 tp_172 rfl
theorem td_172_159 : decode (tw_cd 172) 159 = .ok (.iload 9, 2) := by decide +kernel
theorem tz_172_159 : tw_E sc d 172 159 [x0, x1, x2, x3, x4, x5, x6, x7, x8, some (.int v), x10, x11] st g mi mr Q = tw_E sc d 172 161 [x0, x1, x2, x3, x4, x5, x6, x7, x8, some (.int v), x10, x11] (.int v :: st) g mi mr Q := tw_x_iload td_172_159 rfl
theorem td_172_161 : decode (tw_cd 172) 161 = .ok (.aload_n 0, 1) := by decide +kernel
theorem tz_172_161 : tw_E sc d 172 161 [some (.ref a), x1, x2, x3, x4, x5, x6, x7, x8, x9, x10, x11] st g mi mr Q = tw_E sc d 172 162 [some (.ref a), x1, x2, x3, x4, x5, x6, x7, x8, x9, x10, x11] (.ref a :: st) g mi mr Q := tw_x_aload_n td_172_161 rfl
theorem td_172_162 : decode (tw_cd 172) 162 = .ok (.iload 8, 2) := by decide +kernel
theorem tz_172_162 : tw_E sc d 172 162 [x0, x1, x2, x3, x4, x5, x6, x7, some (.int v), x9, x10, x11] st g mi mr Q = tw_E sc d 172 164 [x0, x1, x2, x3, x4, x5, x6, x7, some (.int v), x9, x10, x11] (.int v :: st) g mi mr Q := tw_x_iload td_172_162 rfl
theorem td_172_164 : decode (tw_cd 172) 164 = .ok (.invokevirtual 207, 3) := by decide +kernel
theorem tz_172_164 {a0 : Int32} : tw_E sc (d + 1) 172 164 [x0, x1, x2, x3, x4, x5, x6, x7, x8, x9, x10, x11] ([.int a0, .ref a, s1]) g mi mr Q = (tw_kd g a = 10 ∧ tw_E sc d 149 0 [some (.ref a), some (.int a0), none] [] g mi mr (tw_K sc (d + 1) 172 167 [x0, x1, x2, x3, x4, x5, x6, x7, x8, x9, x10, x11] [s1] Q)) := tw_x_cv (as := [.int a0]) (r := [s1]) td_172_164 to_172 tc_10_207 to_149 rfl rfl rfl rfl
theorem td_172_167 : decode (tw_cd 172) 167 = .ok (.iadd, 1) := by decide +kernel
theorem tz_172_167 : tw_E sc d 172 167 [x0, x1, x2, x3, x4, x5, x6, x7, x8, x9, x10, x11] (.int w :: .int v :: st) g mi mr Q = tw_E sc d 172 168 [x0, x1, x2, x3, x4, x5, x6, x7, x8, x9, x10, x11] (.int (v + w) :: st) g mi mr Q := tw_x_iadd td_172_167
theorem td_172_168 : decode (tw_cd 172) 168 = .ok (.istore 9, 2) := by decide +kernel
theorem tz_172_168 : tw_E sc d 172 168 [x0, x1, x2, x3, x4, x5, x6, x7, x8, x9, x10, x11] (.int v :: st) g mi mr Q = tw_E sc d 172 170 [x0, x1, x2, x3, x4, x5, x6, x7, x8, some (.int v), x10, x11] st g mi mr Q := tw_x_istore td_172_168 tp_172 rfl
theorem td_172_170 : decode (tw_cd 172) 170 = .ok (.bipush 7, 2) := by decide +kernel
theorem tz_172_170 : tw_E sc d 172 170 [x0, x1, x2, x3, x4, x5, x6, x7, x8, x9, x10, x11] st g mi mr Q = tw_E sc d 172 172 [x0, x1, x2, x3, x4, x5, x6, x7, x8, x9, x10, x11] (.int 7 :: st) g mi mr Q := tw_x_bipush td_172_170 (by decide)
theorem td_172_172 : decode (tw_cd 172) 172 = .ok (.istore 10, 2) := by decide +kernel
theorem tz_172_172 : tw_E sc d 172 172 [x0, x1, x2, x3, x4, x5, x6, x7, x8, x9, x10, x11] (.int v :: st) g mi mr Q = tw_E sc d 172 174 [x0, x1, x2, x3, x4, x5, x6, x7, x8, x9, some (.int v), x11] st g mi mr Q := tw_x_istore td_172_172 tp_172 rfl
theorem td_172_174 : decode (tw_cd 172) 174 = .ok (.iload 10, 2) := by decide +kernel
theorem tz_172_174 : tw_E sc d 172 174 [x0, x1, x2, x3, x4, x5, x6, x7, x8, x9, some (.int v), x11] st g mi mr Q = tw_E sc d 172 176 [x0, x1, x2, x3, x4, x5, x6, x7, x8, x9, some (.int v), x11] (.int v :: st) g mi mr Q := tw_x_iload td_172_174 rfl
theorem td_172_176 : decode (tw_cd 172) 176 = .ok (.ifCond .lt 72, 3) := by decide +kernel
theorem tz_172_176 : tw_E sc d 172 176 [x0, x1, x2, x3, x4, x5, x6, x7, x8, x9, x10, x11] (.int v :: st) g mi mr Q = if v < 0 then tw_E sc d 172 248 [x0, x1, x2, x3, x4, x5, x6, x7, x8, x9, x10, x11] st g mi mr Q else tw_E sc d 172 179 [x0, x1, x2, x3, x4, x5, x6, x7, x8, x9, x10, x11] st g mi mr Q := tw_x_if_lt td_172_176 (by decide)
theorem td_172_179 : decode (tw_cd 172) 179 = .ok (.iload_n 3, 1) := by decide +kernel
theorem tz_172_179 : tw_E sc d 172 179 [x0, x1, x2, some (.int v), x4, x5, x6, x7, x8, x9, x10, x11] st g mi mr Q = tw_E sc d 172 180 [x0, x1, x2, some (.int v), x4, x5, x6, x7, x8, x9, x10, x11] (.int v :: st) g mi mr Q := tw_x_iload_n td_172_179 rfl
theorem td_172_180 : decode (tw_cd 172) 180 = .ok (.iload 10, 2) := by decide +kernel
theorem tz_172_180 : tw_E sc d 172 180 [x0, x1, x2, x3, x4, x5, x6, x7, x8, x9, some (.int v), x11] st g mi mr Q = tw_E sc d 172 182 [x0, x1, x2, x3, x4, x5, x6, x7, x8, x9, some (.int v), x11] (.int v :: st) g mi mr Q := tw_x_iload td_172_180 rfl
theorem td_172_182 : decode (tw_cd 172) 182 = .ok (.ishr, 1) := by decide +kernel
theorem tz_172_182 : tw_E sc d 172 182 [x0, x1, x2, x3, x4, x5, x6, x7, x8, x9, x10, x11] (.int w :: .int v :: st) g mi mr Q = tw_E sc d 172 183 [x0, x1, x2, x3, x4, x5, x6, x7, x8, x9, x10, x11] (.int (v >>> (w &&& 31)) :: st) g mi mr Q := tw_x_ishr td_172_182
theorem td_172_183 : decode (tw_cd 172) 183 = .ok (.iconst 1, 1) := by decide +kernel
theorem tz_172_183 : tw_E sc d 172 183 [x0, x1, x2, x3, x4, x5, x6, x7, x8, x9, x10, x11] st g mi mr Q = tw_E sc d 172 184 [x0, x1, x2, x3, x4, x5, x6, x7, x8, x9, x10, x11] (.int 1 :: st) g mi mr Q := tw_x_iconst td_172_183 (by decide)
theorem td_172_184 : decode (tw_cd 172) 184 = .ok (.iand, 1) := by decide +kernel
theorem tz_172_184 : tw_E sc d 172 184 [x0, x1, x2, x3, x4, x5, x6, x7, x8, x9, x10, x11] (.int w :: .int v :: st) g mi mr Q = tw_E sc d 172 185 [x0, x1, x2, x3, x4, x5, x6, x7, x8, x9, x10, x11] (.int (v &&& w) :: st) g mi mr Q := tw_x_iand td_172_184
theorem td_172_185 : decode (tw_cd 172) 185 = .ok (.iconst 1, 1) := by decide +kernel
theorem tz_172_185 : tw_E sc d 172 185 [x0, x1, x2, x3, x4, x5, x6, x7, x8, x9, x10, x11] st g mi mr Q = tw_E sc d 172 186 [x0, x1, x2, x3, x4, x5, x6, x7, x8, x9, x10, x11] (.int 1 :: st) g mi mr Q := tw_x_iconst td_172_185 (by decide)
theorem td_172_186 : decode (tw_cd 172) 186 = .ok (.if_icmp .ne 8, 3) := by decide +kernel
theorem tz_172_186 : tw_E sc d 172 186 [x0, x1, x2, x3, x4, x5, x6, x7, x8, x9, x10, x11] (.int w :: .int v :: st) g mi mr Q = if ¬ v = w then tw_E sc d 172 194 [x0, x1, x2, x3, x4, x5, x6, x7, x8, x9, x10, x11] st g mi mr Q else tw_E sc d 172 189 [x0, x1, x2, x3, x4, x5, x6, x7, x8, x9, x10, x11] st g mi mr Q := tw_x_ic_ne td_172_186 (by decide)
theorem td_172_189 : decode (tw_cd 172) 189 = .ok (.iload 7, 2) := by decide +kernel
theorem tz_172_189 : tw_E sc d 172 189 [x0, x1, x2, x3, x4, x5, x6, some (.int v), x8, x9, x10, x11] st g mi mr Q = tw_E sc d 172 191 [x0, x1, x2, x3, x4, x5, x6, some (.int v), x8, x9, x10, x11] (.int v :: st) g mi mr Q := tw_x_iload td_172_189 rfl
theorem td_172_191 : decode (tw_cd 172) 191 = .ok (.goto 4, 3) := by decide +kernel
theorem tz_172_191 : tw_E sc d 172 191 [x0, x1, x2, x3, x4, x5, x6, x7, x8, x9, x10, x11] st g mi mr Q = tw_E sc d 172 195 [x0, x1, x2, x3, x4, x5, x6, x7, x8, x9, x10, x11] st g mi mr Q := tw_x_goto td_172_191 (by decide)
theorem td_172_194 : decode (tw_cd 172) 194 = .ok (.iconst 0, 1) := by decide +kernel
theorem tz_172_194 : tw_E sc d 172 194 [x0, x1, x2, x3, x4, x5, x6, x7, x8, x9, x10, x11] st g mi mr Q = tw_E sc d 172 195 [x0, x1, x2, x3, x4, x5, x6, x7, x8, x9, x10, x11] (.int 0 :: st) g mi mr Q := tw_x_iconst td_172_194 (by decide)
theorem td_172_195 : decode (tw_cd 172) 195 = .ok (.istore 11, 2) := by decide +kernel
theorem tz_172_195 : tw_E sc d 172 195 [x0, x1, x2, x3, x4, x5, x6, x7, x8, x9, x10, x11] (.int v :: st) g mi mr Q = tw_E sc d 172 197 [x0, x1, x2, x3, x4, x5, x6, x7, x8, x9, x10, some (.int v)] st g mi mr Q := tw_x_istore td_172_195 tp_172 rfl
theorem td_172_197 : decode (tw_cd 172) 197 = .ok (.iload 9, 2) := by decide +kernel
theorem tz_172_197 : tw_E sc d 172 197 [x0, x1, x2, x3, x4, x5, x6, x7, x8, some (.int v), x10, x11] st g mi mr Q = tw_E sc d 172 199 [x0, x1, x2, x3, x4, x5, x6, x7, x8, some (.int v), x10, x11] (.int v :: st) g mi mr Q := tw_x_iload td_172_197 rfl
theorem td_172_199 : decode (tw_cd 172) 199 = .ok (.aload_n 0, 1) := by decide +kernel
theorem tz_172_199 : tw_E sc d 172 199 [some (.ref a), x1, x2, x3, x4, x5, x6, x7, x8, x9, x10, x11] st g mi mr Q = tw_E sc d 172 200 [some (.ref a), x1, x2, x3, x4, x5, x6, x7, x8, x9, x10, x11] (.ref a :: st) g mi mr Q := tw_x_aload_n td_172_199 rfl
theorem td_172_200 : decode (tw_cd 172) 200 = .ok (.iload 8, 2) := by decide +kernel
theorem tz_172_200 : tw_E sc d 172 200 [x0, x1, x2, x3, x4, x5, x6, x7, some (.int v), x9, x10, x11] st g mi mr Q = tw_E sc d 172 202 [x0, x1, x2, x3, x4, x5, x6, x7, some (.int v), x9, x10, x11] (.int v :: st) g mi mr Q := tw_x_iload td_172_200 rfl
theorem td_172_202 : decode (tw_cd 172) 202 = .ok (.iload 11, 2) := by decide +kernel
theorem tz_172_202 : tw_E sc d 172 202 [x0, x1, x2, x3, x4, x5, x6, x7, x8, x9, x10, some (.int v)] st g mi mr Q = tw_E sc d 172 204 [x0, x1, x2, x3, x4, x5, x6, x7, x8, x9, x10, some (.int v)] (.int v :: st) g mi mr Q := tw_x_iload td_172_202 rfl
theorem td_172_204 : decode (tw_cd 172) 204 = .ok (.ior, 1) := by decide +kernel
theorem tz_172_204 : tw_E sc d 172 204 [x0, x1, x2, x3, x4, x5, x6, x7, x8, x9, x10, x11] (.int w :: .int v :: st) g mi mr Q = tw_E sc d 172 205 [x0, x1, x2, x3, x4, x5, x6, x7, x8, x9, x10, x11] (.int (v ||| w) :: st) g mi mr Q := tw_x_ior td_172_204
theorem td_172_205 : decode (tw_cd 172) 205 = .ok (.invokevirtual 207, 3) := by decide +kernel
theorem tz_172_205 {a0 : Int32} : tw_E sc (d + 1) 172 205 [x0, x1, x2, x3, x4, x5, x6, x7, x8, x9, x10, x11] ([.int a0, .ref a, s1]) g mi mr Q = (tw_kd g a = 10 ∧ tw_E sc d 149 0 [some (.ref a), some (.int a0), none] [] g mi mr (tw_K sc (d + 1) 172 208 [x0, x1, x2, x3, x4, x5, x6, x7, x8, x9, x10, x11] [s1] Q)) := tw_x_cv (as := [.int a0]) (r := [s1]) td_172_205 to_172 tc_10_207 to_149 rfl rfl rfl rfl
theorem td_172_208 : decode (tw_cd 172) 208 = .ok (.iadd, 1) := by decide +kernel
theorem tz_172_208 : tw_E sc d 172 208 [x0, x1, x2, x3, x4, x5, x6, x7, x8, x9, x10, x11] (.int w :: .int v :: st) g mi mr Q = tw_E sc d 172 209 [x0, x1, x2, x3, x4, x5, x6, x7, x8, x9, x10, x11] (.int (v + w) :: st) g mi mr Q := tw_x_iadd td_172_208
theorem td_172_209 : decode (tw_cd 172) 209 = .ok (.istore 9, 2) := by decide +kernel
theorem tz_172_209 : tw_E sc d 172 209 [x0, x1, x2, x3, x4, x5, x6, x7, x8, x9, x10, x11] (.int v :: st) g mi mr Q = tw_E sc d 172 211 [x0, x1, x2, x3, x4, x5, x6, x7, x8, some (.int v), x10, x11] st g mi mr Q := tw_x_istore td_172_209 tp_172 rfl
theorem td_172_211 : decode (tw_cd 172) 211 = .ok (.iload 9, 2) := by decide +kernel
theorem tz_172_211 : tw_E sc d 172 211 [x0, x1, x2, x3, x4, x5, x6, x7, x8, some (.int v), x10, x11] st g mi mr Q = tw_E sc d 172 213 [x0, x1, x2, x3, x4, x5, x6, x7, x8, some (.int v), x10, x11] (.int v :: st) g mi mr Q := tw_x_iload td_172_211 rfl
theorem td_172_213 : decode (tw_cd 172) 213 = .ok (.aload_n 0, 1) := by decide +kernel
theorem tz_172_213 : tw_E sc d 172 213 [some (.ref a), x1, x2, x3, x4, x5, x6, x7, x8, x9, x10, x11] st g mi mr Q = tw_E sc d 172 214 [some (.ref a), x1, x2, x3, x4, x5, x6, x7, x8, x9, x10, x11] (.ref a :: st) g mi mr Q := tw_x_aload_n td_172_213 rfl
theorem td_172_214 : decode (tw_cd 172) 214 = .ok (.iload 8, 2) := by decide +kernel
theorem tz_172_214 : tw_E sc d 172 214 [x0, x1, x2, x3, x4, x5, x6, x7, some (.int v), x9, x10, x11] st g mi mr Q = tw_E sc d 172 216 [x0, x1, x2, x3, x4, x5, x6, x7, some (.int v), x9, x10, x11] (.int v :: st) g mi mr Q := tw_x_iload td_172_214 rfl
theorem td_172_216 : decode (tw_cd 172) 216 = .ok (.iload 6, 2) := by decide +kernel
theorem tz_172_216 : tw_E sc d 172 216 [x0, x1, x2, x3, x4, x5, some (.int v), x7, x8, x9, x10, x11] st g mi mr Q = tw_E sc d 172 218 [x0, x1, x2, x3, x4, x5, some (.int v), x7, x8, x9, x10, x11] (.int v :: st) g mi mr Q := tw_x_iload td_172_216 rfl
theorem td_172_218 : decode (tw_cd 172) 218 = .ok (.ior, 1) := by decide +kernel
theorem tz_172_218 : tw_E sc d 172 218 [x0, x1, x2, x3, x4, x5, x6, x7, x8, x9, x10, x11] (.int w :: .int v :: st) g mi mr Q = tw_E sc d 172 219 [x0, x1, x2, x3, x4, x5, x6, x7, x8, x9, x10, x11] (.int (v ||| w) :: st) g mi mr Q := tw_x_ior td_172_218
theorem td_172_219 : decode (tw_cd 172) 219 = .ok (.iload 11, 2) := by decide +kernel
theorem tz_172_219 : tw_E sc d 172 219 [x0, x1, x2, x3, x4, x5, x6, x7, x8, x9, x10, some (.int v)] st g mi mr Q = tw_E sc d 172 221 [x0, x1, x2, x3, x4, x5, x6, x7, x8, x9, x10, some (.int v)] (.int v :: st) g mi mr Q := tw_x_iload td_172_219 rfl
theorem td_172_221 : decode (tw_cd 172) 221 = .ok (.ior, 1) := by decide +kernel
theorem tz_172_221 : tw_E sc d 172 221 [x0, x1, x2, x3, x4, x5, x6, x7, x8, x9, x10, x11] (.int w :: .int v :: st) g mi mr Q = tw_E sc d 172 222 [x0, x1, x2, x3, x4, x5, x6, x7, x8, x9, x10, x11] (.int (v ||| w) :: st) g mi mr Q := tw_x_ior td_172_221
theorem td_172_222 : decode (tw_cd 172) 222 = .ok (.invokevirtual 207, 3) := by decide +kernel
theorem tz_172_222 {a0 : Int32} : tw_E sc (d + 1) 172 222 [x0, x1, x2, x3, x4, x5, x6, x7, x8, x9, x10, x11] ([.int a0, .ref a, s1]) g mi mr Q = (tw_kd g a = 10 ∧ tw_E sc d 149 0 [some (.ref a), some (.int a0), none] [] g mi mr (tw_K sc (d + 1) 172 225 [x0, x1, x2, x3, x4, x5, x6, x7, x8, x9, x10, x11] [s1] Q)) := tw_x_cv (as := [.int a0]) (r := [s1]) td_172_222 to_172 tc_10_207 to_149 rfl rfl rfl rfl
theorem td_172_225 : decode (tw_cd 172) 225 = .ok (.iadd, 1) := by decide +kernel
theorem tz_172_225 : tw_E sc d 172 225 [x0, x1, x2, x3, x4, x5, x6, x7, x8, x9, x10, x11] (.int w :: .int v :: st) g mi mr Q = tw_E sc d 172 226 [x0, x1, x2, x3, x4, x5, x6, x7, x8, x9, x10, x11] (.int (v + w) :: st) g mi mr Q := tw_x_iadd td_172_225
theorem td_172_226 : decode (tw_cd 172) 226 = .ok (.istore 9, 2) := by decide +kernel
theorem tz_172_226 : tw_E sc d 172 226 [x0, x1, x2, x3, x4, x5, x6, x7, x8, x9, x10, x11] (.int v :: st) g mi mr Q = tw_E sc d 172 228 [x0, x1, x2, x3, x4, x5, x6, x7, x8, some (.int v), x10, x11] st g mi mr Q := tw_x_istore td_172_226 tp_172 rfl
theorem td_172_228 : decode (tw_cd 172) 228 = .ok (.iload 9, 2) := by decide +kernel
theorem tz_172_228 : tw_E sc d 172 228 [x0, x1, x2, x3, x4, x5, x6, x7, x8, some (.int v), x10, x11] st g mi mr Q = tw_E sc d 172 230 [x0, x1, x2, x3, x4, x5, x6, x7, x8, some (.int v), x10, x11] (.int v :: st) g mi mr Q := tw_x_iload td_172_228 rfl
theorem td_172_230 : decode (tw_cd 172) 230 = .ok (.aload_n 0, 1) := by decide +kernel
theorem tz_172_230 : tw_E sc d 172 230 [some (.ref a), x1, x2, x3, x4, x5, x6, x7, x8, x9, x10, x11] st g mi mr Q = tw_E sc d 172 231 [some (.ref a), x1, x2, x3, x4, x5, x6, x7, x8, x9, x10, x11] (.ref a :: st) g mi mr Q := tw_x_aload_n td_172_230 rfl
theorem td_172_231 : decode (tw_cd 172) 231 = .ok (.iload 8, 2) := by decide +kernel
theorem tz_172_231 : tw_E sc d 172 231 [x0, x1, x2, x3, x4, x5, x6, x7, some (.int v), x9, x10, x11] st g mi mr Q = tw_E sc d 172 233 [x0, x1, x2, x3, x4, x5, x6, x7, some (.int v), x9, x10, x11] (.int v :: st) g mi mr Q := tw_x_iload td_172_231 rfl
theorem td_172_233 : decode (tw_cd 172) 233 = .ok (.iload 11, 2) := by decide +kernel
theorem tz_172_233 : tw_E sc d 172 233 [x0, x1, x2, x3, x4, x5, x6, x7, x8, x9, x10, some (.int v)] st g mi mr Q = tw_E sc d 172 235 [x0, x1, x2, x3, x4, x5, x6, x7, x8, x9, x10, some (.int v)] (.int v :: st) g mi mr Q := tw_x_iload td_172_233 rfl
theorem td_172_235 : decode (tw_cd 172) 235 = .ok (.ior, 1) := by decide +kernel
theorem tz_172_235 : tw_E sc d 172 235 [x0, x1, x2, x3, x4, x5, x6, x7, x8, x9, x10, x11] (.int w :: .int v :: st) g mi mr Q = tw_E sc d 172 236 [x0, x1, x2, x3, x4, x5, x6, x7, x8, x9, x10, x11] (.int (v ||| w) :: st) g mi mr Q := tw_x_ior td_172_235
theorem td_172_236 : decode (tw_cd 172) 236 = .ok (.invokevirtual 207, 3) := by decide +kernel
theorem tz_172_236 {a0 : Int32} : tw_E sc (d + 1) 172 236 [x0, x1, x2, x3, x4, x5, x6, x7, x8, x9, x10, x11] ([.int a0, .ref a, s1]) g mi mr Q = (tw_kd g a = 10 ∧ tw_E sc d 149 0 [some (.ref a), some (.int a0), none] [] g mi mr (tw_K sc (d + 1) 172 239 [x0, x1, x2, x3, x4, x5, x6, x7, x8, x9, x10, x11] [s1] Q)) := tw_x_cv (as := [.int a0]) (r := [s1]) td_172_236 to_172 tc_10_207 to_149 rfl rfl rfl rfl
theorem td_172_239 : decode (tw_cd 172) 239 = .ok (.iadd, 1) := by decide +kernel
theorem tz_172_239 : tw_E sc d 172 239 [x0, x1, x2, x3, x4, x5, x6, x7, x8, x9, x10, x11] (.int w :: .int v :: st) g mi mr Q = tw_E sc d 172 240 [x0, x1, x2, x3, x4, x5, x6, x7, x8, x9, x10, x11] (.int (v + w) :: st) g mi mr Q := tw_x_iadd td_172_239
theorem td_172_240 : decode (tw_cd 172) 240 = .ok (.istore 9, 2) := by decide +kernel
theorem tz_172_240 : tw_E sc d 172 240 [x0, x1, x2, x3, x4, x5, x6, x7, x8, x9, x10, x11] (.int v :: st) g mi mr Q = tw_E sc d 172 242 [x0, x1, x2, x3, x4, x5, x6, x7, x8, some (.int v), x10, x11] st g mi mr Q := tw_x_istore td_172_240 tp_172 rfl
theorem td_172_242 : decode (tw_cd 172) 242 = .ok (.iinc 10 (-1), 3) := by decide +kernel
theorem tz_172_242 : tw_E sc d 172 242 [x0, x1, x2, x3, x4, x5, x6, x7, x8, x9, some (.int v), x11] st g mi mr Q = tw_E sc d 172 245 [x0, x1, x2, x3, x4, x5, x6, x7, x8, x9, some (.int (v + (-1))), x11] st g mi mr Q := tw_x_iinc td_172_242 rfl (by first | rfl | (exact congrArg (v + ·) (by decide))) tp_172 rfl
theorem td_172_245 : decode (tw_cd 172) 245 = .ok (.goto (-71), 3) := by decide +kernel
theorem tz_172_245 : tw_E sc d 172 245 [x0, x1, x2, x3, x4, x5, x6, x7, x8, x9, x10, x11] st g mi mr Q = tw_E sc d 172 174 [x0, x1, x2, x3, x4, x5, x6, x7, x8, x9, x10, x11] st g mi mr Q := tw_x_goto td_172_245 (by decide)
theorem td_172_248 : decode (tw_cd 172) 248 = .ok (.iload 5, 2) := by decide +kernel
theorem tz_172_248 : tw_E sc d 172 248 [x0, x1, x2, x3, x4, some (.int v), x6, x7, x8, x9, x10, x11] st g mi mr Q = tw_E sc d 172 250 [x0, x1, x2, x3, x4, some (.int v), x6, x7, x8, x9, x10, x11] (.int v :: st) g mi mr Q := tw_x_iload td_172_248 rfl
theorem td_172_250 : decode (tw_cd 172) 250 = .ok (.ifCond .eq 45, 3) := by decide +kernel
theorem tz_172_250 : tw_E sc d 172 250 [x0, x1, x2, x3, x4, x5, x6, x7, x8, x9, x10, x11] (.int v :: st) g mi mr Q = if v = 0 then tw_E sc d 172 295 [x0, x1, x2, x3, x4, x5, x6, x7, x8, x9, x10, x11] st g mi mr Q else tw_E sc d 172 253 [x0, x1, x2, x3, x4, x5, x6, x7, x8, x9, x10, x11] st g mi mr Q := tw_x_if_eq td_172_250 (by decide)
theorem td_172_253 : decode (tw_cd 172) 253 = .ok (.iload 9, 2) := by decide +kernel
theorem tz_172_253 : tw_E sc d 172 253 [x0, x1, x2, x3, x4, x5, x6, x7, x8, some (.int v), x10, x11] st g mi mr Q = tw_E sc d 172 255 [x0, x1, x2, x3, x4, x5, x6, x7, x8, some (.int v), x10, x11] (.int v :: st) g mi mr Q := tw_x_iload td_172_253 rfl
theorem td_172_255 : decode (tw_cd 172) 255 = .ok (.aload_n 0, 1) := by decide +kernel
theorem tz_172_255 : tw_E sc d 172 255 [some (.ref a), x1, x2, x3, x4, x5, x6, x7, x8, x9, x10, x11] st g mi mr Q = tw_E sc d 172 256 [some (.ref a), x1, x2, x3, x4, x5, x6, x7, x8, x9, x10, x11] (.ref a :: st) g mi mr Q := tw_x_aload_n td_172_255 rfl
theorem td_172_256 : decode (tw_cd 172) 256 = .ok (.iload 8, 2) := by decide +kernel
theorem tz_172_256 : tw_E sc d 172 256 [x0, x1, x2, x3, x4, x5, x6, x7, some (.int v), x9, x10, x11] st g mi mr Q = tw_E sc d 172 258 [x0, x1, x2, x3, x4, x5, x6, x7, some (.int v), x9, x10, x11] (.int v :: st) g mi mr Q := tw_x_iload td_172_256 rfl
theorem td_172_258 : decode (tw_cd 172) 258 = .ok (.invokevirtual 207, 3) := by decide +kernel
theorem tz_172_258 {a0 : Int32} : tw_E sc (d + 1) 172 258 [x0, x1, x2, x3, x4, x5, x6, x7, x8, x9, x10, x11] ([.int a0, .ref a, s1]) g mi mr Q = (tw_kd g a = 10 ∧ tw_E sc d 149 0 [some (.ref a), some (.int a0), none] [] g mi mr (tw_K sc (d + 1) 172 261 [x0, x1, x2, x3, x4, x5, x6, x7, x8, x9, x10, x11] [s1] Q)) := tw_x_cv (as := [.int a0]) (r := [s1]) td_172_258 to_172 tc_10_207 to_149 rfl rfl rfl rfl
theorem td_172_261 : decode (tw_cd 172) 261 = .ok (.iadd, 1) := by decide +kernel
theorem tz_172_261 : tw_E sc d 172 261 [x0, x1, x2, x3, x4, x5, x6, x7, x8, x9, x10, x11] (.int w :: .int v :: st) g mi mr Q = tw_E sc d 172 262 [x0, x1, x2, x3, x4, x5, x6, x7, x8, x9, x10, x11] (.int (v + w) :: st) g mi mr Q := tw_x_iadd td_172_261
theorem td_172_262 : decode (tw_cd 172) 262 = .ok (.istore 9, 2) := by decide +kernel
theorem tz_172_262 : tw_E sc d 172 262 [x0, x1, x2, x3, x4, x5, x6, x7, x8, x9, x10, x11] (.int v :: st) g mi mr Q = tw_E sc d 172 264 [x0, x1, x2, x3, x4, x5, x6, x7, x8, some (.int v), x10, x11] st g mi mr Q := tw_x_istore td_172_262 tp_172 rfl
theorem td_172_264 : decode (tw_cd 172) 264 = .ok (.iload 9, 2) := by decide +kernel
theorem tz_172_264 : tw_E sc d 172 264 [x0, x1, x2, x3, x4, x5, x6, x7, x8, some (.int v), x10, x11] st g mi mr Q = tw_E sc d 172 266 [x0, x1, x2, x3, x4, x5, x6, x7, x8, some (.int v), x10, x11] (.int v :: st) g mi mr Q := tw_x_iload td_172_264 rfl
theorem td_172_266 : decode (tw_cd 172) 266 = .ok (.aload_n 0, 1) := by decide +kernel
theorem tz_172_266 : tw_E sc d 172 266 [some (.ref a), x1, x2, x3, x4, x5, x6, x7, x8, x9, x10, x11] st g mi mr Q = tw_E sc d 172 267 [some (.ref a), x1, x2, x3, x4, x5, x6, x7, x8, x9, x10, x11] (.ref a :: st) g mi mr Q := tw_x_aload_n td_172_266 rfl
theorem td_172_267 : decode (tw_cd 172) 267 = .ok (.iload 8, 2) := by decide +kernel
theorem tz_172_267 : tw_E sc d 172 267 [x0, x1, x2, x3, x4, x5, x6, x7, some (.int v), x9, x10, x11] st g mi mr Q = tw_E sc d 172 269 [x0, x1, x2, x3, x4, x5, x6, x7, some (.int v), x9, x10, x11] (.int v :: st) g mi mr Q := tw_x_iload td_172_267 rfl
theorem td_172_269 : decode (tw_cd 172) 269 = .ok (.iload 6, 2) := by decide +kernel
theorem tz_172_269 : tw_E sc d 172 269 [x0, x1, x2, x3, x4, x5, some (.int v), x7, x8, x9, x10, x11] st g mi mr Q = tw_E sc d 172 271 [x0, x1, x2, x3, x4, x5, some (.int v), x7, x8, x9, x10, x11] (.int v :: st) g mi mr Q := tw_x_iload td_172_269 rfl
theorem td_172_271 : decode (tw_cd 172) 271 = .ok (.ior, 1) := by decide +kernel
theorem tz_172_271 : tw_E sc d 172 271 [x0, x1, x2, x3, x4, x5, x6, x7, x8, x9, x10, x11] (.int w :: .int v :: st) g mi mr Q = tw_E sc d 172 272 [x0, x1, x2, x3, x4, x5, x6, x7, x8, x9, x10, x11] (.int (v ||| w) :: st) g mi mr Q := tw_x_ior td_172_271
theorem td_172_272 : decode (tw_cd 172) 272 = .ok (.invokevirtual 207, 3) := by decide +kernel
theorem tz_172_272 {a0 : Int32} : tw_E sc (d + 1) 172 272 [x0, x1, x2, x3, x4, x5, x6, x7, x8, x9, x10, x11] ([.int a0, .ref a, s1]) g mi mr Q = (tw_kd g a = 10 ∧ tw_E sc d 149 0 [some (.ref a), some (.int a0), none] [] g mi mr (tw_K sc (d + 1) 172 275 [x0, x1, x2, x3, x4, x5, x6, x7, x8, x9, x10, x11] [s1] Q)) := tw_x_cv (as := [.int a0]) (r := [s1]) td_172_272 to_172 tc_10_207 to_149 rfl rfl rfl rfl
theorem td_172_275 : decode (tw_cd 172) 275 = .ok (.iadd, 1) := by decide +kernel
theorem tz_172_275 : tw_E sc d 172 275 [x0, x1, x2, x3, x4, x5, x6, x7, x8, x9, x10, x11] (.int w :: .int v :: st) g mi mr Q = tw_E sc d 172 276 [x0, x1, x2, x3, x4, x5, x6, x7, x8, x9, x10, x11] (.int (v + w) :: st) g mi mr Q := tw_x_iadd td_172_275
theorem td_172_276 : decode (tw_cd 172) 276 = .ok (.istore 9, 2) := by decide +kernel
theorem tz_172_276 : tw_E sc d 172 276 [x0, x1, x2, x3, x4, x5, x6, x7, x8, x9, x10, x11] (.int v :: st) g mi mr Q = tw_E sc d 172 278 [x0, x1, x2, x3, x4, x5, x6, x7, x8, some (.int v), x10, x11] st g mi mr Q := tw_x_istore td_172_276 tp_172 rfl
theorem td_172_278 : decode (tw_cd 172) 278 = .ok (.iload 9, 2) := by decide +kernel
theorem tz_172_278 : tw_E sc d 172 278 [x0, x1, x2, x3, x4, x5, x6, x7, x8, some (.int v), x10, x11] st g mi mr Q = tw_E sc d 172 280 [x0, x1, x2, x3, x4, x5, x6, x7, x8, some (.int v), x10, x11] (.int v :: st) g mi mr Q := tw_x_iload td_172_278 rfl
theorem td_172_280 : decode (tw_cd 172) 280 = .ok (.aload_n 0, 1) := by decide +kernel
theorem tz_172_280 : tw_E sc d 172 280 [some (.ref a), x1, x2, x3, x4, x5, x6, x7, x8, x9, x10, x11] st g mi mr Q = tw_E sc d 172 281 [some (.ref a), x1, x2, x3, x4, x5, x6, x7, x8, x9, x10, x11] (.ref a :: st) g mi mr Q := tw_x_aload_n td_172_280 rfl
theorem td_172_281 : decode (tw_cd 172) 281 = .ok (.iload 8, 2) := by decide +kernel
theorem tz_172_281 : tw_E sc d 172 281 [x0, x1, x2, x3, x4, x5, x6, x7, some (.int v), x9, x10, x11] st g mi mr Q = tw_E sc d 172 283 [x0, x1, x2, x3, x4, x5, x6, x7, some (.int v), x9, x10, x11] (.int v :: st) g mi mr Q := tw_x_iload td_172_281 rfl
theorem td_172_283 : decode (tw_cd 172) 283 = .ok (.iload 6, 2) := by decide +kernel
theorem tz_172_283 : tw_E sc d 172 283 [x0, x1, x2, x3, x4, x5, some (.int v), x7, x8, x9, x10, x11] st g mi mr Q = tw_E sc d 172 285 [x0, x1, x2, x3, x4, x5, some (.int v), x7, x8, x9, x10, x11] (.int v :: st) g mi mr Q := tw_x_iload td_172_283 rfl
theorem td_172_285 : decode (tw_cd 172) 285 = .ok (.ior, 1) := by decide +kernel
theorem tz_172_285 : tw_E sc d 172 285 [x0, x1, x2, x3, x4, x5, x6, x7, x8, x9, x10, x11] (.int w :: .int v :: st) g mi mr Q = tw_E sc d 172 286 [x0, x1, x2, x3, x4, x5, x6, x7, x8, x9, x10, x11] (.int (v ||| w) :: st) g mi mr Q := tw_x_ior td_172_285
theorem td_172_286 : decode (tw_cd 172) 286 = .ok (.iload 7, 2) := by decide +kernel
theorem tz_172_286 : tw_E sc d 172 286 [x0, x1, x2, x3, x4, x5, x6, some (.int v), x8, x9, x10, x11] st g mi mr Q = tw_E sc d 172 288 [x0, x1, x2, x3, x4, x5, x6, some (.int v), x8, x9, x10, x11] (.int v :: st) g mi mr Q := tw_x_iload td_172_286 rfl
theorem td_172_288 : decode (tw_cd 172) 288 = .ok (.ior, 1) := by decide +kernel
theorem tz_172_288 : tw_E sc d 172 288 [x0, x1, x2, x3, x4, x5, x6, x7, x8, x9, x10, x11] (.int w :: .int v :: st) g mi mr Q = tw_E sc d 172 289 [x0, x1, x2, x3, x4, x5, x6, x7, x8, x9, x10, x11] (.int (v ||| w) :: st) g mi mr Q := tw_x_ior td_172_288
theorem td_172_289 : decode (tw_cd 172) 289 = .ok (.invokevirtual 207, 3) := by decide +kernel
theorem tz_172_289 {a0 : Int32} : tw_E sc (d + 1) 172 289 [x0, x1, x2, x3, x4, x5, x6, x7, x8, x9, x10, x11] ([.int a0, .ref a, s1]) g mi mr Q = (tw_kd g a = 10 ∧ tw_E sc d 149 0 [some (.ref a), some (.int a0), none] [] g mi mr (tw_K sc (d + 1) 172 292 [x0, x1, x2, x3, x4, x5, x6, x7, x8, x9, x10, x11] [s1] Q)) := tw_x_cv (as := [.int a0]) (r := [s1]) td_172_289 to_172 tc_10_207 to_149 rfl rfl rfl rfl
theorem td_172_292 : decode (tw_cd 172) 292 = .ok (.iadd, 1) := by decide +kernel
theorem tz_172_292 : tw_E sc d 172 292 [x0, x1, x2, x3, x4, x5, x6, x7, x8, x9, x10, x11] (.int w :: .int v :: st) g mi mr Q = tw_E sc d 172 293 [x0, x1, x2, x3, x4, x5, x6, x7, x8, x9, x10, x11] (.int (v + w) :: st) g mi mr Q := tw_x_iadd td_172_292
theorem td_172_293 : decode (tw_cd 172) 293 = .ok (.istore 9, 2) := by decide +kernel
theorem tz_172_293 : tw_E sc d 172 293 [x0, x1, x2, x3, x4, x5, x6, x7, x8, x9, x10, x11] (.int v :: st) g mi mr Q = tw_E sc d 172 295 [x0, x1, x2, x3, x4, x5, x6, x7, x8, some (.int v), x10, x11] st g mi mr Q := tw_x_istore td_172_293 tp_172 rfl
theorem td_172_295 : decode (tw_cd 172) 295 = .ok (.iload 9, 2) := by decide +kernel
theorem tz_172_295 : tw_E sc d 172 295 [x0, x1, x2, x3, x4, x5, x6, x7, x8, some (.int v), x10, x11] st g mi mr Q = tw_E sc d 172 297 [x0, x1, x2, x3, x4, x5, x6, x7, x8, some (.int v), x10, x11] (.int v :: st) g mi mr Q := tw_x_iload td_172_295 rfl
theorem td_172_297 : decode (tw_cd 172) 297 = .ok (.ireturn, 1) := by decide +kernel
theorem tz_172_297 : tw_E sc d 172 297 [x0, x1, x2, x3, x4, x5, x6, x7, x8, x9, x10, x11] ([.int v]) g mi mr Q = Q (some (.int v)) g mi mr := tw_x_iret td_172_297 tr_172
end tz_172
-- 173: Mo_total
section tz_173
variable {sc : Nat × (Nat → Int32)} {d : Nat} {x0 x1 x2 x3 : Option Value} {st : List Value} {g : tw_G} {mi : tw_I} {mr : tw_Q} {Q : Option Value → tw_G → tw_I → tw_Q → Prop} {v w u : Int32} {a b : Nat} {j h : Int64} {s1 s2 s3 s4 : Value}
theorem td_173_0 : decode (tw_cd 173) 0 = .ok (.aload_n 0, 1) := by decide +kernel
theorem tz_173_0 : tw_E sc d 173 0 [some (.ref a), x1, x2, x3] st g mi mr Q = tw_E sc d 173 1 [some (.ref a), x1, x2, x3] (.ref a :: st) g mi mr Q := tw_x_aload_n td_173_0 rfl
theorem td_173_1 : decode (tw_cd 173) 1 = .ok (.iconst 0, 1) := by decide +kernel
theorem tz_173_1 : tw_E sc d 173 1 [x0, x1, x2, x3] st g mi mr Q = tw_E sc d 173 2 [x0, x1, x2, x3] (.int 0 :: st) g mi mr Q := tw_x_iconst td_173_1 (by decide)
theorem td_173_2 : decode (tw_cd 173) 2 = .ok (.putfield 83, 3) := by decide +kernel
theorem tz_173_2 : tw_E sc d 173 2 [x0, x1, x2, x3] (.int v :: .ref a :: st) g mi mr Q = (tw_kd g a = 10 ∧ tw_E sc d 173 5 [x0, x1, x2, x3] st g (tw_st mi a (tw_st (mi a) 0 v)) mr Q) := tw_x_puti td_173_2 to_173 tf_10_83 rfl rfl
theorem td_173_5 : decode (tw_cd 173) 5 = .ok (.iconst 0, 1) := by decide +kernel
theorem tz_173_5 : tw_E sc d 173 5 [x0, x1, x2, x3] st g mi mr Q = tw_E sc d 173 6 [x0, x1, x2, x3] (.int 0 :: st) g mi mr Q := tw_x_iconst td_173_5 (by decide)
theorem td_173_6 : decode (tw_cd 173) 6 = .ok (.istore_n 2, 1) := by decide +kernel
theorem tz_173_6 : tw_E sc d 173 6 [x0, x1, x2, x3] (.int v :: st) g mi mr Q = tw_E sc d 173 7 [x0, x1, some (.int v), x3] st g mi mr Q := tw_x_istore_n td_173_6 tp_173 rfl
theorem td_173_7 : decode (tw_cd 173) 7 = .ok (.iconst 0, 1) := by decide +kernel
theorem tz_173_7 : tw_E sc d 173 7 [x0, x1, x2, x3] st g mi mr Q = tw_E sc d 173 8 [x0, x1, x2, x3] (.int 0 :: st) g mi mr Q := tw_x_iconst td_173_7 (by decide)
theorem td_173_8 : decode (tw_cd 173) 8 = .ok (.istore_n 3, 1) := by decide +kernel
theorem tz_173_8 : tw_E sc d 173 8 [x0, x1, x2, x3] (.int v :: st) g mi mr Q = tw_E sc d 173 9 [x0, x1, x2, some (.int v)] st g mi mr Q := tw_x_istore_n td_173_8 tp_173 rfl
theorem td_173_9 : decode (tw_cd 173) 9 = .ok (.iload_n 3, 1) := by decide +kernel
theorem tz_173_9 : tw_E sc d 173 9 [x0, x1, x2, some (.int v)] st g mi mr Q = tw_E sc d 173 10 [x0, x1, x2, some (.int v)] (.int v :: st) g mi mr Q := tw_x_iload_n td_173_9 rfl
theorem td_173_10 : decode (tw_cd 173) 10 = .ok (.aload_n 0, 1) := by decide +kernel
theorem tz_173_10 : tw_E sc d 173 10 [some (.ref a), x1, x2, x3] st g mi mr Q = tw_E sc d 173 11 [some (.ref a), x1, x2, x3] (.ref a :: st) g mi mr Q := tw_x_aload_n td_173_10 rfl
theorem td_173_11 : decode (tw_cd 173) 11 = .ok (.getfield 185, 3) := by decide +kernel
theorem tz_173_11 : tw_E sc d 173 11 [x0, x1, x2, x3] (.ref a :: st) g mi mr Q = (tw_kd g a = 10 ∧ tw_E sc d 173 14 [x0, x1, x2, x3] (.int (mi a 20) :: st) g mi mr Q) := tw_x_geti td_173_11 to_173 tf_10_185 (trf_10_20)
theorem td_173_14 : decode (tw_cd 173) 14 = .ok (.if_icmp .ge 26, 3) := by decide +kernel
theorem tz_173_14 : tw_E sc d 173 14 [x0, x1, x2, x3] (.int w :: .int v :: st) g mi mr Q = if w ≤ v then tw_E sc d 173 40 [x0, x1, x2, x3] st g mi mr Q else tw_E sc d 173 17 [x0, x1, x2, x3] st g mi mr Q := tw_x_ic_ge td_173_14 (by decide)
theorem td_173_17 : decode (tw_cd 173) 17 = .ok (.iload_n 2, 1) := by decide +kernel
theorem tz_173_17 : tw_E sc d 173 17 [x0, x1, some (.int v), x3] st g mi mr Q = tw_E sc d 173 18 [x0, x1, some (.int v), x3] (.int v :: st) g mi mr Q := tw_x_iload_n td_173_17 rfl
theorem td_173_18 : decode (tw_cd 173) 18 = .ok (.aload_n 0, 1) := by decide +kernel
theorem tz_173_18 : tw_E sc d 173 18 [some (.ref a), x1, x2, x3] st g mi mr Q = tw_E sc d 173 19 [some (.ref a), x1, x2, x3] (.ref a :: st) g mi mr Q := tw_x_aload_n td_173_18 rfl
theorem td_173_19 : decode (tw_cd 173) 19 = .ok (.getfield 56, 3) := by decide +kernel
theorem tz_173_19 : tw_E sc d 173 19 [x0, x1, x2, x3] (.ref a :: st) g mi mr Q = (tw_kd g a = 10 ∧ tw_E sc d 173 22 [x0, x1, x2, x3] (va_rf (mr a 22) :: st) g mi mr Q) := tw_x_getr td_173_19 to_173 tf_10_56 (trf_10_22)
theorem td_173_22 : decode (tw_cd 173) 22 = .ok (.iload_n 3, 1) := by decide +kernel
theorem tz_173_22 : tw_E sc d 173 22 [x0, x1, x2, some (.int v)] st g mi mr Q = tw_E sc d 173 23 [x0, x1, x2, some (.int v)] (.int v :: st) g mi mr Q := tw_x_iload_n td_173_22 rfl
theorem td_173_23 : decode (tw_cd 173) 23 = .ok (.baload, 1) := by decide +kernel
theorem tz_173_23 : tw_E sc d 173 23 [x0, x1, x2, x3] (.int v :: .ref a :: st) g mi mr Q = ((tw_kd g a = 21 ∧ vp_in v (tw_ln g a)) ∧ tw_E sc d 173 24 [x0, x1, x2, x3] (.int (mi a v.toNatClampNeg) :: st) g mi mr Q) := tw_x_zald td_173_23
theorem td_173_24 : decode (tw_cd 173) 24 = .ok (.ifCond .eq 7, 3) := by decide +kernel
theorem tz_173_24 : tw_E sc d 173 24 [x0, x1, x2, x3] (.int v :: st) g mi mr Q = if v = 0 then tw_E sc d 173 31 [x0, x1, x2, x3] st g mi mr Q else tw_E sc d 173 27 [x0, x1, x2, x3] st g mi mr Q := tw_x_if_eq td_173_24 (by decide)
theorem td_173_27 : decode (tw_cd 173) 27 = .ok (.iconst 1, 1) := by decide +kernel
theorem tz_173_27 : tw_E sc d 173 27 [x0, x1, x2, x3] st g mi mr Q = tw_E sc d 173 28 [x0, x1, x2, x3] (.int 1 :: st) g mi mr Q := tw_x_iconst td_173_27 (by decide)
theorem td_173_28 : decode (tw_cd 173) 28 = .ok (.goto 4, 3) := by decide +kernel
theorem tz_173_28 : tw_E sc d 173 28 [x0, x1, x2, x3] st g mi mr Q = tw_E sc d 173 32 [x0, x1, x2, x3] st g mi mr Q := tw_x_goto td_173_28 (by decide)
theorem td_173_31 : decode (tw_cd 173) 31 = .ok (.iconst 0, 1) := by decide +kernel
theorem tz_173_31 : tw_E sc d 173 31 [x0, x1, x2, x3] st g mi mr Q = tw_E sc d 173 32 [x0, x1, x2, x3] (.int 0 :: st) g mi mr Q := tw_x_iconst td_173_31 (by decide)
theorem td_173_32 : decode (tw_cd 173) 32 = .ok (.iadd, 1) := by decide +kernel
theorem tz_173_32 : tw_E sc d 173 32 [x0, x1, x2, x3] (.int w :: .int v :: st) g mi mr Q = tw_E sc d 173 33 [x0, x1, x2, x3] (.int (v + w) :: st) g mi mr Q := tw_x_iadd td_173_32
theorem td_173_33 : decode (tw_cd 173) 33 = .ok (.istore_n 2, 1) := by decide +kernel
theorem tz_173_33 : tw_E sc d 173 33 [x0, x1, x2, x3] (.int v :: st) g mi mr Q = tw_E sc d 173 34 [x0, x1, some (.int v), x3] st g mi mr Q := tw_x_istore_n td_173_33 tp_173 rfl
theorem td_173_34 : decode (tw_cd 173) 34 = .ok (.iinc 3 1, 3) := by decide +kernel
theorem tz_173_34 : tw_E sc d 173 34 [x0, x1, x2, some (.int v)] st g mi mr Q = tw_E sc d 173 37 [x0, x1, x2, some (.int (v + 1))] st g mi mr Q := tw_x_iinc td_173_34 rfl (by first | rfl | (exact congrArg (v + ·) (by decide))) tp_173 rfl
theorem td_173_37 : decode (tw_cd 173) 37 = .ok (.goto (-28), 3) := by decide +kernel
theorem tz_173_37 : tw_E sc d 173 37 [x0, x1, x2, x3] st g mi mr Q = tw_E sc d 173 9 [x0, x1, x2, x3] st g mi mr Q := tw_x_goto td_173_37 (by decide)
theorem td_173_40 : decode (tw_cd 173) 40 = .ok (.iload_n 1, 1) := by decide +kernel
theorem tz_173_40 : tw_E sc d 173 40 [x0, some (.int v), x2, x3] st g mi mr Q = tw_E sc d 173 41 [x0, some (.int v), x2, x3] (.int v :: st) g mi mr Q := tw_x_iload_n td_173_40 rfl
theorem td_173_41 : decode (tw_cd 173) 41 = .ok (.tableswitch 66 0 5 #[39, 44, 49, 51, 56, 61], 39) := by decide +kernel
theorem tz_173_41 : tw_E sc d 173 41 [x0, x1, x2, x3] (.int v :: st) g mi mr Q = tw_E sc d 173 (tw_sw v 0 [80, 85, 90, 92, 97, 102] 107) [x0, x1, x2, x3] st g mi mr Q := tw_x_ts td_173_41 (by decide) (by decide) (by decide)
theorem td_173_80 : decode (tw_cd 173) 80 = .ok (.aload_n 0, 1) := by decide +kernel
theorem tz_173_80 : tw_E sc d 173 80 [some (.ref a), x1, x2, x3] st g mi mr Q = tw_E sc d 173 81 [some (.ref a), x1, x2, x3] (.ref a :: st) g mi mr Q := tw_x_aload_n td_173_80 rfl
theorem td_173_81 : decode (tw_cd 173) 81 = .ok (.getfield 176, 3) := by decide +kernel
theorem tz_173_81 : tw_E sc d 173 81 [x0, x1, x2, x3] (.ref a :: st) g mi mr Q = (tw_kd g a = 10 ∧ tw_E sc d 173 84 [x0, x1, x2, x3] (.int (mi a 5) :: st) g mi mr Q) := tw_x_geti td_173_81 to_173 tf_10_176 (trf_10_5)
theorem td_173_84 : decode (tw_cd 173) 84 = .ok (.ireturn, 1) := by decide +kernel
theorem tz_173_84 : tw_E sc d 173 84 [x0, x1, x2, x3] ([.int v]) g mi mr Q = Q (some (.int v)) g mi mr := tw_x_iret td_173_84 tr_173
theorem td_173_85 : decode (tw_cd 173) 85 = .ok (.aload_n 0, 1) := by decide +kernel
theorem tz_173_85 : tw_E sc d 173 85 [some (.ref a), x1, x2, x3] st g mi mr Q = tw_E sc d 173 86 [some (.ref a), x1, x2, x3] (.ref a :: st) g mi mr Q := tw_x_aload_n td_173_85 rfl
theorem td_173_86 : decode (tw_cd 173) 86 = .ok (.getfield 185, 3) := by decide +kernel
theorem tz_173_86 : tw_E sc d 173 86 [x0, x1, x2, x3] (.ref a :: st) g mi mr Q = (tw_kd g a = 10 ∧ tw_E sc d 173 89 [x0, x1, x2, x3] (.int (mi a 20) :: st) g mi mr Q) := tw_x_geti td_173_86 to_173 tf_10_185 (trf_10_20)
theorem td_173_89 : decode (tw_cd 173) 89 = .ok (.ireturn, 1) := by decide +kernel
theorem tz_173_89 : tw_E sc d 173 89 [x0, x1, x2, x3] ([.int v]) g mi mr Q = Q (some (.int v)) g mi mr := tw_x_iret td_173_89 tr_173
theorem td_173_90 : decode (tw_cd 173) 90 = .ok (.iload_n 2, 1) := by decide +kernel
theorem tz_173_90 : tw_E sc d 173 90 [x0, x1, some (.int v), x3] st g mi mr Q = tw_E sc d 173 91 [x0, x1, some (.int v), x3] (.int v :: st) g mi mr Q := tw_x_iload_n td_173_90 rfl
theorem td_173_91 : decode (tw_cd 173) 91 = .ok (.ireturn, 1) := by decide +kernel
theorem tz_173_91 : tw_E sc d 173 91 [x0, x1, x2, x3] ([.int v]) g mi mr Q = Q (some (.int v)) g mi mr := tw_x_iret td_173_91 tr_173
theorem td_173_92 : decode (tw_cd 173) 92 = .ok (.aload_n 0, 1) := by decide +kernel
theorem tz_173_92 : tw_E sc d 173 92 [some (.ref a), x1, x2, x3] st g mi mr Q = tw_E sc d 173 93 [some (.ref a), x1, x2, x3] (.ref a :: st) g mi mr Q := tw_x_aload_n td_173_92 rfl
theorem td_173_93 : decode (tw_cd 173) 93 = .ok (.getfield 218, 3) := by decide +kernel
theorem tz_173_93 : tw_E sc d 173 93 [x0, x1, x2, x3] (.ref a :: st) g mi mr Q = (tw_kd g a = 10 ∧ tw_E sc d 173 96 [x0, x1, x2, x3] (.int (mi a 23) :: st) g mi mr Q) := tw_x_geti td_173_93 to_173 tf_10_218 (trf_10_23)
theorem td_173_96 : decode (tw_cd 173) 96 = .ok (.ireturn, 1) := by decide +kernel
theorem tz_173_96 : tw_E sc d 173 96 [x0, x1, x2, x3] ([.int v]) g mi mr Q = Q (some (.int v)) g mi mr := tw_x_iret td_173_96 tr_173
theorem td_173_97 : decode (tw_cd 173) 97 = .ok (.aload_n 0, 1) := by decide +kernel
theorem tz_173_97 : tw_E sc d 173 97 [some (.ref a), x1, x2, x3] st g mi mr Q = tw_E sc d 173 98 [some (.ref a), x1, x2, x3] (.ref a :: st) g mi mr Q := tw_x_aload_n td_173_97 rfl
theorem td_173_98 : decode (tw_cd 173) 98 = .ok (.getfield 225, 3) := by decide +kernel
theorem tz_173_98 : tw_E sc d 173 98 [x0, x1, x2, x3] (.ref a :: st) g mi mr Q = (tw_kd g a = 10 ∧ tw_E sc d 173 101 [x0, x1, x2, x3] (.int (mi a 25) :: st) g mi mr Q) := tw_x_geti td_173_98 to_173 tf_10_225 (trf_10_25)
theorem td_173_101 : decode (tw_cd 173) 101 = .ok (.ireturn, 1) := by decide +kernel
theorem tz_173_101 : tw_E sc d 173 101 [x0, x1, x2, x3] ([.int v]) g mi mr Q = Q (some (.int v)) g mi mr := tw_x_iret td_173_101 tr_173
theorem td_173_102 : decode (tw_cd 173) 102 = .ok (.aload_n 0, 1) := by decide +kernel
theorem tz_173_102 : tw_E sc d 173 102 [some (.ref a), x1, x2, x3] st g mi mr Q = tw_E sc d 173 103 [some (.ref a), x1, x2, x3] (.ref a :: st) g mi mr Q := tw_x_aload_n td_173_102 rfl
theorem td_173_103 : decode (tw_cd 173) 103 = .ok (.getfield 89, 3) := by decide +kernel
theorem tz_173_103 : tw_E sc d 173 103 [x0, x1, x2, x3] (.ref a :: st) g mi mr Q = (tw_kd g a = 10 ∧ tw_E sc d 173 106 [x0, x1, x2, x3] (.int (mi a 2) :: st) g mi mr Q) := tw_x_geti td_173_103 to_173 tf_10_89 (trf_10_2)
theorem td_173_106 : decode (tw_cd 173) 106 = .ok (.ireturn, 1) := by decide +kernel
theorem tz_173_106 : tw_E sc d 173 106 [x0, x1, x2, x3] ([.int v]) g mi mr Q = Q (some (.int v)) g mi mr := tw_x_iret td_173_106 tr_173
theorem td_173_107 : decode (tw_cd 173) 107 = .ok (.bipush (-2), 2) := by decide +kernel
theorem tz_173_107 : tw_E sc d 173 107 [x0, x1, x2, x3] st g mi mr Q = tw_E sc d 173 109 [x0, x1, x2, x3] (.int (-2) :: st) g mi mr Q := tw_x_bipush td_173_107 (by decide)
theorem td_173_109 : decode (tw_cd 173) 109 = .ok (.ireturn, 1) := by decide +kernel
theorem tz_173_109 : tw_E sc d 173 109 [x0, x1, x2, x3] ([.int v]) g mi mr Q = Q (some (.int v)) g mi mr := tw_x_iret td_173_109 tr_173
end tz_173
