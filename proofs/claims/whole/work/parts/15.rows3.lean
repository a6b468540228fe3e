/-! a row for each instruction: printed by wip/whole/gen3.py -/
-- 84: Re_readNumber
section tz_84
variable {sc : Nat × (Nat → Int32)} {d : Nat} {x0 x1 : Option Value} {st : List Value} {g : tw_G} {mi : tw_I} {mr : tw_Q} {Q : Option Value → tw_G → tw_I → tw_Q → Prop} {v w u : Int32} {a b : Nat} {j h : Int64} {s1 s2 s3 s4 : Value}
theorem td_84_0 : decode (tw_cd 84) 0 = .ok (.aload_n 0, 1) := by decide +kernel
theorem tz_84_0 : tw_E sc d 84 0 [some (.ref a), x1] st g mi mr Q = tw_E sc d 84 1 [some (.ref a), x1] (.ref a :: st) g mi mr Q := tw_x_aload_n td_84_0 rfl
theorem td_84_1 : decode (tw_cd 84) 1 = .ok (.aload_n 0, 1) := by decide +kernel
theorem tz_84_1 : tw_E sc d 84 1 [some (.ref a), x1] st g mi mr Q = tw_E sc d 84 2 [some (.ref a), x1] (.ref a :: st) g mi mr Q := tw_x_aload_n td_84_1 rfl
theorem td_84_2 : decode (tw_cd 84) 2 = .ok (.getfield 76, 3) := by decide +kernel
theorem tz_84_2 : tw_E sc d 84 2 [x0, x1] (.ref a :: st) g mi mr Q = (tw_kd g a = 4 ∧ tw_E sc d 84 5 [x0, x1] (.int (mi a 4) :: st) g mi mr Q) := tw_x_geti td_84_2 to_84 tf_4_76 (trf_4_4)
theorem td_84_5 : decode (tw_cd 84) 5 = .ok (.putfield 31, 3) := by decide +kernel
theorem tz_84_5 : tw_E sc d 84 5 [x0, x1] (.int v :: .ref a :: st) g mi mr Q = (tw_kd g a = 4 ∧ tw_E sc d 84 8 [x0, x1] st g (tw_st mi a (tw_st (mi a) 5 v)) mr Q) := tw_x_puti td_84_5 to_84 tf_4_31 rfl rfl
theorem td_84_8 : decode (tw_cd 84) 8 = .ok (.aload_n 0, 1) := by decide +kernel
theorem tz_84_8 : tw_E sc d 84 8 [some (.ref a), x1] st g mi mr Q = tw_E sc d 84 9 [some (.ref a), x1] (.ref a :: st) g mi mr Q := tw_x_aload_n td_84_8 rfl
theorem td_84_9 : decode (tw_cd 84) 9 = .ok (.iconst 0, 1) := by decide +kernel
theorem tz_84_9 : tw_E sc d 84 9 [x0, x1] st g mi mr Q = tw_E sc d 84 10 [x0, x1] (.int 0 :: st) g mi mr Q := tw_x_iconst td_84_9 (by decide)
theorem td_84_10 : decode (tw_cd 84) 10 = .ok (.putfield 69, 3) := by decide +kernel
theorem tz_84_10 : tw_E sc d 84 10 [x0, x1] (.int v :: .ref a :: st) g mi mr Q = (tw_kd g a = 4 ∧ tw_E sc d 84 13 [x0, x1] st g (tw_st mi a (tw_st (mi a) 3 v)) mr Q) := tw_x_puti td_84_10 to_84 tf_4_69 rfl rfl
theorem td_84_13 : decode (tw_cd 84) 13 = .ok (.iconst 0, 1) := by decide +kernel
theorem tz_84_13 : tw_E sc d 84 13 [x0, x1] st g mi mr Q = tw_E sc d 84 14 [x0, x1] (.int 0 :: st) g mi mr Q := tw_x_iconst td_84_13 (by decide)
theorem td_84_14 : decode (tw_cd 84) 14 = .ok (.istore_n 1, 1) := by decide +kernel
theorem tz_84_14 : tw_E sc d 84 14 [x0, x1] (.int v :: st) g mi mr Q = tw_E sc d 84 15 [x0, some (.int v)] st g mi mr Q := tw_x_istore_n td_84_14 tp_84 rfl
theorem td_84_15 : decode (tw_cd 84) 15 = .ok (.iload_n 1, 1) := by decide +kernel
theorem tz_84_15 : tw_E sc d 84 15 [x0, some (.int v)] st g mi mr Q = tw_E sc d 84 16 [x0, some (.int v)] (.int v :: st) g mi mr Q := tw_x_iload_n td_84_15 rfl
theorem td_84_16 : decode (tw_cd 84) 16 = .ok (.bipush 60, 2) := by decide +kernel
theorem tz_84_16 : tw_E sc d 84 16 [x0, x1] st g mi mr Q = tw_E sc d 84 18 [x0, x1] (.int 60 :: st) g mi mr Q := tw_x_bipush td_84_16 (by decide)
theorem td_84_18 : decode (tw_cd 84) 18 = .ok (.if_icmp .ge 68, 3) := by decide +kernel
theorem tz_84_18 : tw_E sc d 84 18 [x0, x1] (.int w :: .int v :: st) g mi mr Q = if w ≤ v then tw_E sc d 84 86 [x0, x1] st g mi mr Q else tw_E sc d 84 21 [x0, x1] st g mi mr Q := tw_x_ic_ge td_84_18 (by decide)
theorem td_84_21 : decode (tw_cd 84) 21 = .ok (.aload_n 0, 1) := by decide +kernel
theorem tz_84_21 : tw_E sc d 84 21 [some (.ref a), x1] st g mi mr Q = tw_E sc d 84 22 [some (.ref a), x1] (.ref a :: st) g mi mr Q := tw_x_aload_n td_84_21 rfl
theorem td_84_22 : decode (tw_cd 84) 22 = .ok (.getfield 18, 3) := by decide +kernel
theorem tz_84_22 : tw_E sc d 84 22 [x0, x1] (.ref a :: st) g mi mr Q = (tw_kd g a = 4 ∧ tw_E sc d 84 25 [x0, x1] (va_rf (mr a 0) :: st) g mi mr Q) := tw_x_getr td_84_22 to_84 tf_4_18 (trf_4_0)
theorem td_84_25 : decode (tw_cd 84) 25 = .ok (.aload_n 0, 1) := by decide +kernel
theorem tz_84_25 : tw_E sc d 84 25 [some (.ref a), x1] st g mi mr Q = tw_E sc d 84 26 [some (.ref a), x1] (.ref a :: st) g mi mr Q := tw_x_aload_n td_84_25 rfl
theorem td_84_26 : decode (tw_cd 84) 26 = .ok (.getfield 31, 3) := by decide +kernel
theorem tz_84_26 : tw_E sc d 84 26 [x0, x1] (.ref a :: st) g mi mr Q = (tw_kd g a = 4 ∧ tw_E sc d 84 29 [x0, x1] (.int (mi a 5) :: st) g mi mr Q) := tw_x_geti td_84_26 to_84 tf_4_31 (trf_4_5)
theorem td_84_29 : decode (tw_cd 84) 29 = .ok (.invokevirtual 108, 3) := by decide +kernel
theorem tz_84_29 {a0 : Int32} : tw_E sc (d + 1) 84 29 [x0, x1] ([.int a0, .ref a]) g mi mr Q = (tw_kd g a = 3 ∧ tw_E sc d 62 0 [some (.ref a), some (.int a0)] [] g mi mr (tw_K sc (d + 1) 84 32 [x0, x1] [] Q)) := tw_x_cv (as := [.int a0]) (r := []) td_84_29 to_84 tc_4_108 to_62 rfl rfl rfl rfl
theorem td_84_32 : decode (tw_cd 84) 32 = .ok (.invokestatic 111, 3) := by decide +kernel
theorem tz_84_32 {a0 : Int32} : tw_E sc (d + 1) 84 32 [x0, x1] ([.int a0]) g mi mr Q = tw_E sc d 86 0 [some (.int a0)] [] g mi mr (tw_K sc (d + 1) 84 35 [x0, x1] [] Q) := tw_x_cs (as := [.int a0]) (r := []) td_84_32 to_84 tmn_4_111 tc_4_111 rfl rfl rfl rfl rfl
theorem td_84_35 : decode (tw_cd 84) 35 = .ok (.ifCond .eq 51, 3) := by decide +kernel
theorem tz_84_35 : tw_E sc d 84 35 [x0, x1] (.int v :: st) g mi mr Q = if v = 0 then tw_E sc d 84 86 [x0, x1] st g mi mr Q else tw_E sc d 84 38 [x0, x1] st g mi mr Q := tw_x_if_eq td_84_35 (by decide)
theorem td_84_38 : decode (tw_cd 84) 38 = .ok (.aload_n 0, 1) := by decide +kernel
theorem tz_84_38 : tw_E sc d 84 38 [some (.ref a), x1] st g mi mr Q = tw_E sc d 84 39 [some (.ref a), x1] (.ref a :: st) g mi mr Q := tw_x_aload_n td_84_38 rfl
theorem td_84_39 : decode (tw_cd 84) 39 = .ok (.bipush 10, 2) := by decide +kernel
theorem tz_84_39 : tw_E sc d 84 39 [x0, x1] st g mi mr Q = tw_E sc d 84 41 [x0, x1] (.int 10 :: st) g mi mr Q := tw_x_bipush td_84_39 (by decide)
theorem td_84_41 : decode (tw_cd 84) 41 = .ok (.aload_n 0, 1) := by decide +kernel
theorem tz_84_41 : tw_E sc d 84 41 [some (.ref a), x1] st g mi mr Q = tw_E sc d 84 42 [some (.ref a), x1] (.ref a :: st) g mi mr Q := tw_x_aload_n td_84_41 rfl
theorem td_84_42 : decode (tw_cd 84) 42 = .ok (.getfield 69, 3) := by decide +kernel
theorem tz_84_42 : tw_E sc d 84 42 [x0, x1] (.ref a :: st) g mi mr Q = (tw_kd g a = 4 ∧ tw_E sc d 84 45 [x0, x1] (.int (mi a 3) :: st) g mi mr Q) := tw_x_geti td_84_42 to_84 tf_4_69 (trf_4_3)
theorem td_84_45 : decode (tw_cd 84) 45 = .ok (.imul, 1) := by decide +kernel
theorem tz_84_45 : tw_E sc d 84 45 [x0, x1] (.int w :: .int v :: st) g mi mr Q = tw_E sc d 84 46 [x0, x1] (.int (v * w) :: st) g mi mr Q := tw_x_imul td_84_45
theorem td_84_46 : decode (tw_cd 84) 46 = .ok (.aload_n 0, 1) := by decide +kernel
theorem tz_84_46 : tw_E sc d 84 46 [some (.ref a), x1] st g mi mr Q = tw_E sc d 84 47 [some (.ref a), x1] (.ref a :: st) g mi mr Q := tw_x_aload_n td_84_46 rfl
theorem td_84_47 : decode (tw_cd 84) 47 = .ok (.getfield 18, 3) := by decide +kernel
theorem tz_84_47 : tw_E sc d 84 47 [x0, x1] (.ref a :: st) g mi mr Q = (tw_kd g a = 4 ∧ tw_E sc d 84 50 [x0, x1] (va_rf (mr a 0) :: st) g mi mr Q) := tw_x_getr td_84_47 to_84 tf_4_18 (trf_4_0)
theorem td_84_50 : decode (tw_cd 84) 50 = .ok (.aload_n 0, 1) := by decide +kernel
theorem tz_84_50 : tw_E sc d 84 50 [some (.ref a), x1] st g mi mr Q = tw_E sc d 84 51 [some (.ref a), x1] (.ref a :: st) g mi mr Q := tw_x_aload_n td_84_50 rfl
theorem td_84_51 : decode (tw_cd 84) 51 = .ok (.getfield 31, 3) := by decide +kernel
theorem tz_84_51 : tw_E sc d 84 51 [x0, x1] (.ref a :: st) g mi mr Q = (tw_kd g a = 4 ∧ tw_E sc d 84 54 [x0, x1] (.int (mi a 5) :: st) g mi mr Q) := tw_x_geti td_84_51 to_84 tf_4_31 (trf_4_5)
theorem td_84_54 : decode (tw_cd 84) 54 = .ok (.invokevirtual 108, 3) := by decide +kernel
theorem tz_84_54 {a0 : Int32} : tw_E sc (d + 1) 84 54 [x0, x1] ([.int a0, .ref a, s1, s2]) g mi mr Q = (tw_kd g a = 3 ∧ tw_E sc d 62 0 [some (.ref a), some (.int a0)] [] g mi mr (tw_K sc (d + 1) 84 57 [x0, x1] [s1, s2] Q)) := tw_x_cv (as := [.int a0]) (r := [s1, s2]) td_84_54 to_84 tc_4_108 to_62 rfl rfl rfl rfl
theorem td_84_57 : decode (tw_cd 84) 57 = .ok (.iadd, 1) := by decide +kernel
theorem tz_84_57 : tw_E sc d 84 57 [x0, x1] (.int w :: .int v :: st) g mi mr Q = tw_E sc d 84 58 [x0, x1] (.int (v + w) :: st) g mi mr Q := tw_x_iadd td_84_57
theorem td_84_58 : decode (tw_cd 84) 58 = .ok (.bipush 48, 2) := by decide +kernel
theorem tz_84_58 : tw_E sc d 84 58 [x0, x1] st g mi mr Q = tw_E sc d 84 60 [x0, x1] (.int 48 :: st) g mi mr Q := tw_x_bipush td_84_58 (by decide)
theorem td_84_60 : decode (tw_cd 84) 60 = .ok (.isub, 1) := by decide +kernel
theorem tz_84_60 : tw_E sc d 84 60 [x0, x1] (.int w :: .int v :: st) g mi mr Q = tw_E sc d 84 61 [x0, x1] (.int (v - w) :: st) g mi mr Q := tw_x_isub td_84_60
theorem td_84_61 : decode (tw_cd 84) 61 = .ok (.sipush 1000, 3) := by decide +kernel
theorem tz_84_61 : tw_E sc d 84 61 [x0, x1] st g mi mr Q = tw_E sc d 84 64 [x0, x1] (.int 1000 :: st) g mi mr Q := tw_x_sipush td_84_61 (by decide)
theorem td_84_64 : decode (tw_cd 84) 64 = .ok (.invokestatic 117, 3) := by decide +kernel
theorem tz_84_64 : tw_E sc (d + 1) 84 64 [x0, x1] (.int w :: .int v :: s1 :: []) g mi mr Q = tw_E sc (d + 1) 84 67 [x0, x1] (.int (if w < v then w else v) :: s1 :: []) g mi mr Q := tw_x_min td_84_64 to_84 tm_4_117 (by simp)
theorem td_84_67 : decode (tw_cd 84) 67 = .ok (.putfield 69, 3) := by decide +kernel
theorem tz_84_67 : tw_E sc d 84 67 [x0, x1] (.int v :: .ref a :: st) g mi mr Q = (tw_kd g a = 4 ∧ tw_E sc d 84 70 [x0, x1] st g (tw_st mi a (tw_st (mi a) 3 v)) mr Q) := tw_x_puti td_84_67 to_84 tf_4_69 rfl rfl
theorem td_84_70 : decode (tw_cd 84) 70 = .ok (.aload_n 0, 1) := by decide +kernel
theorem tz_84_70 : tw_E sc d 84 70 [some (.ref a), x1] st g mi mr Q = tw_E sc d 84 71 [some (.ref a), x1] (.ref a :: st) g mi mr Q := tw_x_aload_n td_84_70 rfl
theorem td_84_71 : decode (tw_cd 84) 71 = .ok (.dup, 1) := by decide +kernel
theorem tz_84_71 : tw_E sc d 84 71 [x0, x1] (.ref a :: st) g mi mr Q = tw_E sc d 84 72 [x0, x1] (.ref a :: .ref a :: st) g mi mr Q := tw_x_dup_ref td_84_71
theorem td_84_72 : decode (tw_cd 84) 72 = .ok (.getfield 31, 3) := by decide +kernel
theorem tz_84_72 : tw_E sc d 84 72 [x0, x1] (.ref a :: st) g mi mr Q = (tw_kd g a = 4 ∧ tw_E sc d 84 75 [x0, x1] (.int (mi a 5) :: st) g mi mr Q) := tw_x_geti td_84_72 to_84 tf_4_31 (trf_4_5)
theorem td_84_75 : decode (tw_cd 84) 75 = .ok (.iconst 1, 1) := by decide +kernel
theorem tz_84_75 : tw_E sc d 84 75 [x0, x1] st g mi mr Q = tw_E sc d 84 76 [x0, x1] (.int 1 :: st) g mi mr Q := tw_x_iconst td_84_75 (by decide)
theorem td_84_76 : decode (tw_cd 84) 76 = .ok (.iadd, 1) := by decide +kernel
theorem tz_84_76 : tw_E sc d 84 76 [x0, x1] (.int w :: .int v :: st) g mi mr Q = tw_E sc d 84 77 [x0, x1] (.int (v + w) :: st) g mi mr Q := tw_x_iadd td_84_76
theorem td_84_77 : decode (tw_cd 84) 77 = .ok (.putfield 31, 3) := by decide +kernel
theorem tz_84_77 : tw_E sc d 84 77 [x0, x1] (.int v :: .ref a :: st) g mi mr Q = (tw_kd g a = 4 ∧ tw_E sc d 84 80 [x0, x1] st g (tw_st mi a (tw_st (mi a) 5 v)) mr Q) := tw_x_puti td_84_77 to_84 tf_4_31 rfl rfl
theorem td_84_80 : decode (tw_cd 84) 80 = .ok (.iinc 1 1, 3) := by decide +kernel
theorem tz_84_80 : tw_E sc d 84 80 [x0, some (.int v)] st g mi mr Q = tw_E sc d 84 83 [x0, some (.int (v + 1))] st g mi mr Q := tw_x_iinc td_84_80 rfl (by first | rfl | (exact congrArg (v + ·) (by decide))) tp_84 rfl
theorem td_84_83 : decode (tw_cd 84) 83 = .ok (.goto (-68), 3) := by decide +kernel
theorem tz_84_83 : tw_E sc d 84 83 [x0, x1] st g mi mr Q = tw_E sc d 84 15 [x0, x1] st g mi mr Q := tw_x_goto td_84_83 (by decide)
theorem td_84_86 : decode (tw_cd 84) 86 = .ok (.aload_n 0, 1) := by decide +kernel
theorem tz_84_86 : tw_E sc d 84 86 [some (.ref a), x1] st g mi mr Q = tw_E sc d 84 87 [some (.ref a), x1] (.ref a :: st) g mi mr Q := tw_x_aload_n td_84_86 rfl
theorem td_84_87 : decode (tw_cd 84) 87 = .ok (.getfield 31, 3) := by decide +kernel
theorem tz_84_87 : tw_E sc d 84 87 [x0, x1] (.ref a :: st) g mi mr Q = (tw_kd g a = 4 ∧ tw_E sc d 84 90 [x0, x1] (.int (mi a 5) :: st) g mi mr Q) := tw_x_geti td_84_87 to_84 tf_4_31 (trf_4_5)
theorem td_84_90 : decode (tw_cd 84) 90 = .ok (.aload_n 0, 1) := by decide +kernel
theorem tz_84_90 : tw_E sc d 84 90 [some (.ref a), x1] st g mi mr Q = tw_E sc d 84 91 [some (.ref a), x1] (.ref a :: st) g mi mr Q := tw_x_aload_n td_84_90 rfl
theorem td_84_91 : decode (tw_cd 84) 91 = .ok (.getfield 76, 3) := by decide +kernel
theorem tz_84_91 : tw_E sc d 84 91 [x0, x1] (.ref a :: st) g mi mr Q = (tw_kd g a = 4 ∧ tw_E sc d 84 94 [x0, x1] (.int (mi a 4) :: st) g mi mr Q) := tw_x_geti td_84_91 to_84 tf_4_76 (trf_4_4)
theorem td_84_94 : decode (tw_cd 84) 94 = .ok (.isub, 1) := by decide +kernel
theorem tz_84_94 : tw_E sc d 84 94 [x0, x1] (.int w :: .int v :: st) g mi mr Q = tw_E sc d 84 95 [x0, x1] (.int (v - w) :: st) g mi mr Q := tw_x_isub td_84_94
theorem td_84_95 : decode (tw_cd 84) 95 = .ok (.iconst 3, 1) := by decide +kernel
theorem tz_84_95 : tw_E sc d 84 95 [x0, x1] st g mi mr Q = tw_E sc d 84 96 [x0, x1] (.int 3 :: st) g mi mr Q := tw_x_iconst td_84_95 (by decide)
theorem td_84_96 : decode (tw_cd 84) 96 = .ok (.if_icmp .gt 25, 3) := by decide +kernel
theorem tz_84_96 : tw_E sc d 84 96 [x0, x1] (.int w :: .int v :: st) g mi mr Q = if w < v then tw_E sc d 84 121 [x0, x1] st g mi mr Q else tw_E sc d 84 99 [x0, x1] st g mi mr Q := tw_x_ic_gt td_84_96 (by decide)
theorem td_84_99 : decode (tw_cd 84) 99 = .ok (.aload_n 0, 1) := by decide +kernel
theorem tz_84_99 : tw_E sc d 84 99 [some (.ref a), x1] st g mi mr Q = tw_E sc d 84 100 [some (.ref a), x1] (.ref a :: st) g mi mr Q := tw_x_aload_n td_84_99 rfl
theorem td_84_100 : decode (tw_cd 84) 100 = .ok (.getfield 69, 3) := by decide +kernel
theorem tz_84_100 : tw_E sc d 84 100 [x0, x1] (.ref a :: st) g mi mr Q = (tw_kd g a = 4 ∧ tw_E sc d 84 103 [x0, x1] (.int (mi a 3) :: st) g mi mr Q) := tw_x_geti td_84_100 to_84 tf_4_69 (trf_4_3)
theorem td_84_103 : decode (tw_cd 84) 103 = .ok (.iconst 1, 1) := by decide +kernel
theorem tz_84_103 : tw_E sc d 84 103 [x0, x1] st g mi mr Q = tw_E sc d 84 104 [x0, x1] (.int 1 :: st) g mi mr Q := tw_x_iconst td_84_103 (by decide)
theorem td_84_104 : decode (tw_cd 84) 104 = .ok (.if_icmp .lt 17, 3) := by decide +kernel
theorem tz_84_104 : tw_E sc d 84 104 [x0, x1] (.int w :: .int v :: st) g mi mr Q = if v < w then tw_E sc d 84 121 [x0, x1] st g mi mr Q else tw_E sc d 84 107 [x0, x1] st g mi mr Q := tw_x_ic_lt td_84_104 (by decide)
theorem td_84_107 : decode (tw_cd 84) 107 = .ok (.aload_n 0, 1) := by decide +kernel
theorem tz_84_107 : tw_E sc d 84 107 [some (.ref a), x1] st g mi mr Q = tw_E sc d 84 108 [some (.ref a), x1] (.ref a :: st) g mi mr Q := tw_x_aload_n td_84_107 rfl
theorem td_84_108 : decode (tw_cd 84) 108 = .ok (.getfield 69, 3) := by decide +kernel
theorem tz_84_108 : tw_E sc d 84 108 [x0, x1] (.ref a :: st) g mi mr Q = (tw_kd g a = 4 ∧ tw_E sc d 84 111 [x0, x1] (.int (mi a 3) :: st) g mi mr Q) := tw_x_geti td_84_108 to_84 tf_4_69 (trf_4_3)
theorem td_84_111 : decode (tw_cd 84) 111 = .ok (.sipush 999, 3) := by decide +kernel
theorem tz_84_111 : tw_E sc d 84 111 [x0, x1] st g mi mr Q = tw_E sc d 84 114 [x0, x1] (.int 999 :: st) g mi mr Q := tw_x_sipush td_84_111 (by decide)
theorem td_84_114 : decode (tw_cd 84) 114 = .ok (.if_icmp .gt 7, 3) := by decide +kernel
theorem tz_84_114 : tw_E sc d 84 114 [x0, x1] (.int w :: .int v :: st) g mi mr Q = if w < v then tw_E sc d 84 121 [x0, x1] st g mi mr Q else tw_E sc d 84 117 [x0, x1] st g mi mr Q := tw_x_ic_gt td_84_114 (by decide)
theorem td_84_117 : decode (tw_cd 84) 117 = .ok (.iconst 1, 1) := by decide +kernel
theorem tz_84_117 : tw_E sc d 84 117 [x0, x1] st g mi mr Q = tw_E sc d 84 118 [x0, x1] (.int 1 :: st) g mi mr Q := tw_x_iconst td_84_117 (by decide)
theorem td_84_118 : decode (tw_cd 84) 118 = .ok (.goto 4, 3) := by decide +kernel
theorem tz_84_118 : tw_E sc d 84 118 [x0, x1] st g mi mr Q = tw_E sc d 84 122 [x0, x1] st g mi mr Q := tw_x_goto td_84_118 (by decide)
theorem td_84_121 : decode (tw_cd 84) 121 = .ok (.iconst 0, 1) := by decide +kernel
theorem tz_84_121 : tw_E sc d 84 121 [x0, x1] st g mi mr Q = tw_E sc d 84 122 [x0, x1] (.int 0 :: st) g mi mr Q := tw_x_iconst td_84_121 (by decide)
theorem td_84_122 : decode (tw_cd 84) 122 = .ok (.istore_n 1, 1) := by decide +kernel
theorem tz_84_122 : tw_E sc d 84 122 [x0, x1] (.int v :: st) g mi mr Q = tw_E sc d 84 123 [x0, some (.int v)] st g mi mr Q := tw_x_istore_n td_84_122 tp_84 rfl
theorem td_84_123 : decode (tw_cd 84) 123 = .ok (.aload_n 0, 1) := by decide +kernel
theorem tz_84_123 : tw_E sc d 84 123 [some (.ref a), x1] st g mi mr Q = tw_E sc d 84 124 [some (.ref a), x1] (.ref a :: st) g mi mr Q := tw_x_aload_n td_84_123 rfl
theorem td_84_124 : decode (tw_cd 84) 124 = .ok (.iload_n 1, 1) := by decide +kernel
theorem tz_84_124 : tw_E sc d 84 124 [x0, some (.int v)] st g mi mr Q = tw_E sc d 84 125 [x0, some (.int v)] (.int v :: st) g mi mr Q := tw_x_iload_n td_84_124 rfl
theorem td_84_125 : decode (tw_cd 84) 125 = .ok (.ifCond .eq 9, 3) := by decide +kernel
theorem tz_84_125 : tw_E sc d 84 125 [x0, x1] (.int v :: st) g mi mr Q = if v = 0 then tw_E sc d 84 134 [x0, x1] st g mi mr Q else tw_E sc d 84 128 [x0, x1] st g mi mr Q := tw_x_if_eq td_84_125 (by decide)
theorem td_84_128 : decode (tw_cd 84) 128 = .ok (.sipush 256, 3) := by decide +kernel
theorem tz_84_128 : tw_E sc d 84 128 [x0, x1] st g mi mr Q = tw_E sc d 84 131 [x0, x1] (.int 256 :: st) g mi mr Q := tw_x_sipush td_84_128 (by decide)
theorem td_84_131 : decode (tw_cd 84) 131 = .ok (.goto 6, 3) := by decide +kernel
theorem tz_84_131 : tw_E sc d 84 131 [x0, x1] st g mi mr Q = tw_E sc d 84 137 [x0, x1] st g mi mr Q := tw_x_goto td_84_131 (by decide)
theorem td_84_134 : decode (tw_cd 84) 134 = .ok (.sipush 258, 3) := by decide +kernel
theorem tz_84_134 : tw_E sc d 84 134 [x0, x1] st g mi mr Q = tw_E sc d 84 137 [x0, x1] (.int 258 :: st) g mi mr Q := tw_x_sipush td_84_134 (by decide)
theorem td_84_137 : decode (tw_cd 84) 137 = .ok (.putfield 41, 3) := by decide +kernel
theorem tz_84_137 : tw_E sc d 84 137 [x0, x1] (.int v :: .ref a :: st) g mi mr Q = (tw_kd g a = 4 ∧ tw_E sc d 84 140 [x0, x1] st g (tw_st mi a (tw_st (mi a) 2 v)) mr Q) := tw_x_puti td_84_137 to_84 tf_4_41 rfl rfl
theorem td_84_140 : decode (tw_cd 84) 140 = .ok (.return_, 1) := by decide +kernel
theorem tz_84_140 : tw_E sc d 84 140 [x0, x1] [] g mi mr Q = Q none g mi mr := tw_x_vret td_84_140 tr_84
end tz_84
-- 85: Re_starIsNext
section tz_85
variable {sc : Nat × (Nat → Int32)} {d : Nat} {x0 : Option Value} {st : List Value} {g : tw_G} {mi : tw_I} {mr : tw_Q} {Q : Option Value → tw_G → tw_I → tw_Q → Prop} {v w u : Int32} {a b : Nat} {j h : Int64} {s1 s2 s3 s4 : Value}
theorem td_85_0 : decode (tw_cd 85) 0 = .ok (.aload_n 0, 1) := by decide +kernel
theorem tz_85_0 : tw_E sc d 85 0 [some (.ref a)] st g mi mr Q = tw_E sc d 85 1 [some (.ref a)] (.ref a :: st) g mi mr Q := tw_x_aload_n td_85_0 rfl
theorem td_85_1 : decode (tw_cd 85) 1 = .ok (.getfield 18, 3) := by decide +kernel
theorem tz_85_1 : tw_E sc d 85 1 [x0] (.ref a :: st) g mi mr Q = (tw_kd g a = 4 ∧ tw_E sc d 85 4 [x0] (va_rf (mr a 0) :: st) g mi mr Q) := tw_x_getr td_85_1 to_85 tf_4_18 (trf_4_0)
theorem td_85_4 : decode (tw_cd 85) 4 = .ok (.aload_n 0, 1) := by decide +kernel
theorem tz_85_4 : tw_E sc d 85 4 [some (.ref a)] st g mi mr Q = tw_E sc d 85 5 [some (.ref a)] (.ref a :: st) g mi mr Q := tw_x_aload_n td_85_4 rfl
theorem td_85_5 : decode (tw_cd 85) 5 = .ok (.getfield 18, 3) := by decide +kernel
theorem tz_85_5 : tw_E sc d 85 5 [x0] (.ref a :: st) g mi mr Q = (tw_kd g a = 4 ∧ tw_E sc d 85 8 [x0] (va_rf (mr a 0) :: st) g mi mr Q) := tw_x_getr td_85_5 to_85 tf_4_18 (trf_4_0)
theorem td_85_8 : decode (tw_cd 85) 8 = .ok (.aload_n 0, 1) := by decide +kernel
theorem tz_85_8 : tw_E sc d 85 8 [some (.ref a)] st g mi mr Q = tw_E sc d 85 9 [some (.ref a)] (.ref a :: st) g mi mr Q := tw_x_aload_n td_85_8 rfl
theorem td_85_9 : decode (tw_cd 85) 9 = .ok (.getfield 31, 3) := by decide +kernel
theorem tz_85_9 : tw_E sc d 85 9 [x0] (.ref a :: st) g mi mr Q = (tw_kd g a = 4 ∧ tw_E sc d 85 12 [x0] (.int (mi a 5) :: st) g mi mr Q) := tw_x_geti td_85_9 to_85 tf_4_31 (trf_4_5)
theorem td_85_12 : decode (tw_cd 85) 12 = .ok (.invokevirtual 103, 3) := by decide +kernel
theorem tz_85_12 {a0 : Int32} : tw_E sc (d + 1) 85 12 [x0] ([.int a0, .ref a, s1]) g mi mr Q = (tw_kd g a = 3 ∧ tw_E sc d 63 0 [some (.ref a), some (.int a0), none] [] g mi mr (tw_K sc (d + 1) 85 15 [x0] [s1] Q)) := tw_x_cv (as := [.int a0]) (r := [s1]) td_85_12 to_85 tc_4_103 to_63 rfl rfl rfl rfl
theorem td_85_15 : decode (tw_cd 85) 15 = .ok (.invokevirtual 108, 3) := by decide +kernel
theorem tz_85_15 {a0 : Int32} : tw_E sc (d + 1) 85 15 [x0] ([.int a0, .ref a]) g mi mr Q = (tw_kd g a = 3 ∧ tw_E sc d 62 0 [some (.ref a), some (.int a0)] [] g mi mr (tw_K sc (d + 1) 85 18 [x0] [] Q)) := tw_x_cv (as := [.int a0]) (r := []) td_85_15 to_85 tc_4_108 to_62 rfl rfl rfl rfl
theorem td_85_18 : decode (tw_cd 85) 18 = .ok (.bipush 42, 2) := by decide +kernel
theorem tz_85_18 : tw_E sc d 85 18 [x0] st g mi mr Q = tw_E sc d 85 20 [x0] (.int 42 :: st) g mi mr Q := tw_x_bipush td_85_18 (by decide)
theorem td_85_20 : decode (tw_cd 85) 20 = .ok (.if_icmp .ne 7, 3) := by decide +kernel
theorem tz_85_20 : tw_E sc d 85 20 [x0] (.int w :: .int v :: st) g mi mr Q = if ¬ v = w then tw_E sc d 85 27 [x0] st g mi mr Q else tw_E sc d 85 23 [x0] st g mi mr Q := tw_x_ic_ne td_85_20 (by decide)
theorem td_85_23 : decode (tw_cd 85) 23 = .ok (.iconst 1, 1) := by decide +kernel
theorem tz_85_23 : tw_E sc d 85 23 [x0] st g mi mr Q = tw_E sc d 85 24 [x0] (.int 1 :: st) g mi mr Q := tw_x_iconst td_85_23 (by decide)
theorem td_85_24 : decode (tw_cd 85) 24 = .ok (.goto 4, 3) := by decide +kernel
theorem tz_85_24 : tw_E sc d 85 24 [x0] st g mi mr Q = tw_E sc d 85 28 [x0] st g mi mr Q := tw_x_goto td_85_24 (by decide)
theorem td_85_27 : decode (tw_cd 85) 27 = .ok (.iconst 0, 1) := by decide +kernel
theorem tz_85_27 : tw_E sc d 85 27 [x0] st g mi mr Q = tw_E sc d 85 28 [x0] (.int 0 :: st) g mi mr Q := tw_x_iconst td_85_27 (by decide)
theorem td_85_28 : decode (tw_cd 85) 28 = .ok (.ireturn, 1) := by decide +kernel
theorem tz_85_28 : tw_E sc d 85 28 [x0] ([.int v]) g mi mr Q = ((v = 0 ∨ v = 1) ∧ Q (some (.int v)) g mi mr) := tw_x_zret td_85_28 tr_85
end tz_85
-- 86: Re_isDigit
section tz_86
variable {sc : Nat × (Nat → Int32)} {d : Nat} {x0 : Option Value} {st : List Value} {g : tw_G} {mi : tw_I} {mr : tw_Q} {Q : Option Value → tw_G → tw_I → tw_Q → Prop} {v w u : Int32} {a b : Nat} {j h : Int64} {s1 s2 s3 s4 : Value}
theorem td_86_0 : decode (tw_cd 86) 0 = .ok (.iload_n 0, 1) := by decide +kernel
theorem tz_86_0 : tw_E sc d 86 0 [some (.int v)] st g mi mr Q = tw_E sc d 86 1 [some (.int v)] (.int v :: st) g mi mr Q := tw_x_iload_n td_86_0 rfl
theorem td_86_1 : decode (tw_cd 86) 1 = .ok (.bipush 48, 2) := by decide +kernel
theorem tz_86_1 : tw_E sc d 86 1 [x0] st g mi mr Q = tw_E sc d 86 3 [x0] (.int 48 :: st) g mi mr Q := tw_x_bipush td_86_1 (by decide)
theorem td_86_3 : decode (tw_cd 86) 3 = .ok (.if_icmp .lt 13, 3) := by decide +kernel
theorem tz_86_3 : tw_E sc d 86 3 [x0] (.int w :: .int v :: st) g mi mr Q = if v < w then tw_E sc d 86 16 [x0] st g mi mr Q else tw_E sc d 86 6 [x0] st g mi mr Q := tw_x_ic_lt td_86_3 (by decide)
theorem td_86_6 : decode (tw_cd 86) 6 = .ok (.iload_n 0, 1) := by decide +kernel
theorem tz_86_6 : tw_E sc d 86 6 [some (.int v)] st g mi mr Q = tw_E sc d 86 7 [some (.int v)] (.int v :: st) g mi mr Q := tw_x_iload_n td_86_6 rfl
theorem td_86_7 : decode (tw_cd 86) 7 = .ok (.bipush 57, 2) := by decide +kernel
theorem tz_86_7 : tw_E sc d 86 7 [x0] st g mi mr Q = tw_E sc d 86 9 [x0] (.int 57 :: st) g mi mr Q := tw_x_bipush td_86_7 (by decide)
theorem td_86_9 : decode (tw_cd 86) 9 = .ok (.if_icmp .gt 7, 3) := by decide +kernel
theorem tz_86_9 : tw_E sc d 86 9 [x0] (.int w :: .int v :: st) g mi mr Q = if w < v then tw_E sc d 86 16 [x0] st g mi mr Q else tw_E sc d 86 12 [x0] st g mi mr Q := tw_x_ic_gt td_86_9 (by decide)
theorem td_86_12 : decode (tw_cd 86) 12 = .ok (.iconst 1, 1) := by decide +kernel
theorem tz_86_12 : tw_E sc d 86 12 [x0] st g mi mr Q = tw_E sc d 86 13 [x0] (.int 1 :: st) g mi mr Q := tw_x_iconst td_86_12 (by decide)
theorem td_86_13 : decode (tw_cd 86) 13 = .ok (.goto 4, 3) := by decide +kernel
theorem tz_86_13 : tw_E sc d 86 13 [x0] st g mi mr Q = tw_E sc d 86 17 [x0] st g mi mr Q := tw_x_goto td_86_13 (by decide)
theorem td_86_16 : decode (tw_cd 86) 16 = .ok (.iconst 0, 1) := by decide +kernel
theorem tz_86_16 : tw_E sc d 86 16 [x0] st g mi mr Q = tw_E sc d 86 17 [x0] (.int 0 :: st) g mi mr Q := tw_x_iconst td_86_16 (by decide)
theorem td_86_17 : decode (tw_cd 86) 17 = .ok (.ireturn, 1) := by decide +kernel
theorem tz_86_17 : tw_E sc d 86 17 [x0] ([.int v]) g mi mr Q = ((v = 0 ∨ v = 1) ∧ Q (some (.int v)) g mi mr) := tw_x_zret td_86_17 tr_86
end tz_86
-- 87: Re_edgeOf
section tz_87
variable {sc : Nat × (Nat → Int32)} {d : Nat} {x0 : Option Value} {st : List Value} {g : tw_G} {mi : tw_I} {mr : tw_Q} {Q : Option Value → tw_G → tw_I → tw_Q → Prop} {v w u : Int32} {a b : Nat} {j h : Int64} {s1 s2 s3 s4 : Value}
theorem td_87_0 : decode (tw_cd 87) 0 = .ok (.iload_n 0, 1) := by decide +kernel
theorem tz_87_0 : tw_E sc d 87 0 [some (.int v)] st g mi mr Q = tw_E sc d 87 1 [some (.int v)] (.int v :: st) g mi mr Q := tw_x_iload_n td_87_0 rfl
theorem td_87_1 : decode (tw_cd 87) 1 = .ok (.lookupswitch 41 #[(43, 35), (45, 37), (126, 39)], 35) := by decide +kernel
theorem tz_87_1 : tw_E sc d 87 1 [x0] (.int v :: st) g mi mr Q = if v = 43 then tw_E sc d 87 36 [x0] st g mi mr Q else if v = 45 then tw_E sc d 87 38 [x0] st g mi mr Q else if v = 126 then tw_E sc d 87 40 [x0] st g mi mr Q else tw_E sc d 87 42 [x0] st g mi mr Q := tw_x_l3 td_87_1 (by decide) (by decide) (by decide) (by decide) (by decide) (by decide) (by decide) rfl
theorem td_87_36 : decode (tw_cd 87) 36 = .ok (.iconst 0, 1) := by decide +kernel
theorem tz_87_36 : tw_E sc d 87 36 [x0] st g mi mr Q = tw_E sc d 87 37 [x0] (.int 0 :: st) g mi mr Q := tw_x_iconst td_87_36 (by decide)
theorem td_87_37 : decode (tw_cd 87) 37 = .ok (.ireturn, 1) := by decide +kernel
theorem tz_87_37 : tw_E sc d 87 37 [x0] ([.int v]) g mi mr Q = Q (some (.int v)) g mi mr := tw_x_iret td_87_37 tr_87
theorem td_87_38 : decode (tw_cd 87) 38 = .ok (.iconst 1, 1) := by decide +kernel
theorem tz_87_38 : tw_E sc d 87 38 [x0] st g mi mr Q = tw_E sc d 87 39 [x0] (.int 1 :: st) g mi mr Q := tw_x_iconst td_87_38 (by decide)
theorem td_87_39 : decode (tw_cd 87) 39 = .ok (.ireturn, 1) := by decide +kernel
theorem tz_87_39 : tw_E sc d 87 39 [x0] ([.int v]) g mi mr Q = Q (some (.int v)) g mi mr := tw_x_iret td_87_39 tr_87
theorem td_87_40 : decode (tw_cd 87) 40 = .ok (.iconst 2, 1) := by decide +kernel
theorem tz_87_40 : tw_E sc d 87 40 [x0] st g mi mr Q = tw_E sc d 87 41 [x0] (.int 2 :: st) g mi mr Q := tw_x_iconst td_87_40 (by decide)
theorem td_87_41 : decode (tw_cd 87) 41 = .ok (.ireturn, 1) := by decide +kernel
theorem tz_87_41 : tw_E sc d 87 41 [x0] ([.int v]) g mi mr Q = Q (some (.int v)) g mi mr := tw_x_iret td_87_41 tr_87
theorem td_87_42 : decode (tw_cd 87) 42 = .ok (.bipush (-9), 2) := by decide +kernel
theorem tz_87_42 : tw_E sc d 87 42 [x0] st g mi mr Q = tw_E sc d 87 44 [x0] (.int (-9) :: st) g mi mr Q := tw_x_bipush td_87_42 (by decide)
theorem td_87_44 : decode (tw_cd 87) 44 = .ok (.ireturn, 1) := by decide +kernel
theorem tz_87_44 : tw_E sc d 87 44 [x0] ([.int v]) g mi mr Q = Q (some (.int v)) g mi mr := tw_x_iret td_87_44 tr_87
end tz_87
-- 88: Hi_init
section tz_88
variable {sc : Nat × (Nat → Int32)} {d : Nat} {x0 : Option Value} {st : List Value} {g : tw_G} {mi : tw_I} {mr : tw_Q} {Q : Option Value → tw_G → tw_I → tw_Q → Prop} {v w u : Int32} {a b : Nat} {j h : Int64} {s1 s2 s3 s4 : Value}
theorem td_88_0 : decode (tw_cd 88) 0 = .ok (.aload_n 0, 1) := by decide +kernel
theorem tz_88_0 : tw_E sc d 88 0 [some (.ref a)] st g mi mr Q = tw_E sc d 88 1 [some (.ref a)] (.ref a :: st) g mi mr Q := tw_x_aload_n td_88_0 rfl
theorem td_88_1 : decode (tw_cd 88) 1 = .ok (.invokespecial 3, 3) := by decide +kernel
theorem tz_88_1 : tw_E sc (d + 1) 88 1 [x0] (.ref a :: []) g mi mr Q = tw_E sc (d + 1) 88 4 [x0] [] g mi mr Q := tw_x_obj td_88_1 to_88 toi_5 (by simp)
theorem td_88_4 : decode (tw_cd 88) 4 = .ok (.aload_n 0, 1) := by decide +kernel
theorem tz_88_4 : tw_E sc d 88 4 [some (.ref a)] st g mi mr Q = tw_E sc d 88 5 [some (.ref a)] (.ref a :: st) g mi mr Q := tw_x_aload_n td_88_4 rfl
theorem td_88_5 : decode (tw_cd 88) 5 = .ok (.sipush 4000, 3) := by decide +kernel
theorem tz_88_5 : tw_E sc d 88 5 [x0] st g mi mr Q = tw_E sc d 88 8 [x0] (.int 4000 :: st) g mi mr Q := tw_x_sipush td_88_5 (by decide)
theorem td_88_8 : decode (tw_cd 88) 8 = .ok (.newarray .int, 2) := by decide +kernel
theorem tz_88_8 : tw_E sc d 88 8 [x0] (.int 4000 :: st) g mi mr Q = tw_E sc d 88 10 [x0] (.ref g.1 :: st) (tw_gn g 20 4000 4000) (tw_st mi g.1 (fun _ => 0)) (tw_st mr g.1 (fun _ => none)) Q := tw_x_newi td_88_8 (by decide)
theorem td_88_10 : decode (tw_cd 88) 10 = .ok (.putfield 9, 3) := by decide +kernel
theorem tz_88_10 : tw_E sc d 88 10 [x0] (.ref b :: .ref a :: st) g mi mr Q = (tw_kd g a = 5 ∧ tw_E sc d 88 13 [x0] st g mi (tw_st mr a (tw_st (mr a) 0 (some b))) Q) := tw_x_putr td_88_10 to_88 tf_5_9 (Or.inr ⟨rfl, rfl⟩) (trf_5_0)
theorem td_88_13 : decode (tw_cd 88) 13 = .ok (.aload_n 0, 1) := by decide +kernel
theorem tz_88_13 : tw_E sc d 88 13 [some (.ref a)] st g mi mr Q = tw_E sc d 88 14 [some (.ref a)] (.ref a :: st) g mi mr Q := tw_x_aload_n td_88_13 rfl
theorem td_88_14 : decode (tw_cd 88) 14 = .ok (.sipush 4000, 3) := by decide +kernel
theorem tz_88_14 : tw_E sc d 88 14 [x0] st g mi mr Q = tw_E sc d 88 17 [x0] (.int 4000 :: st) g mi mr Q := tw_x_sipush td_88_14 (by decide)
theorem td_88_17 : decode (tw_cd 88) 17 = .ok (.newarray .boolean, 2) := by decide +kernel
theorem tz_88_17 : tw_E sc d 88 17 [x0] (.int 4000 :: st) g mi mr Q = tw_E sc d 88 19 [x0] (.ref g.1 :: st) (tw_gn g 21 4000 4000) (tw_st mi g.1 (fun _ => 0)) (tw_st mr g.1 (fun _ => none)) Q := tw_x_newz td_88_17 (by decide)
theorem td_88_19 : decode (tw_cd 88) 19 = .ok (.putfield 15, 3) := by decide +kernel
theorem tz_88_19 : tw_E sc d 88 19 [x0] (.ref b :: .ref a :: st) g mi mr Q = (tw_kd g a = 5 ∧ tw_E sc d 88 22 [x0] st g mi (tw_st mr a (tw_st (mr a) 1 (some b))) Q) := tw_x_putr td_88_19 to_88 tf_5_15 (Or.inr ⟨rfl, rfl⟩) (trf_5_1)
theorem td_88_22 : decode (tw_cd 88) 22 = .ok (.return_, 1) := by decide +kernel
theorem tz_88_22 : tw_E sc d 88 22 [x0] [] g mi mr Q = Q none g mi mr := tw_x_vret td_88_22 tr_88
end tz_88
-- 89: Hi_clear
section tz_89
variable {sc : Nat × (Nat → Int32)} {d : Nat} {x0 : Option Value} {st : List Value} {g : tw_G} {mi : tw_I} {mr : tw_Q} {Q : Option Value → tw_G → tw_I → tw_Q → Prop} {v w u : Int32} {a b : Nat} {j h : Int64} {s1 s2 s3 s4 : Value}
theorem td_89_0 : decode (tw_cd 89) 0 = .ok (.aload_n 0, 1) := by decide +kernel
theorem tz_89_0 : tw_E sc d 89 0 [some (.ref a)] st g mi mr Q = tw_E sc d 89 1 [some (.ref a)] (.ref a :: st) g mi mr Q := tw_x_aload_n td_89_0 rfl
theorem td_89_1 : decode (tw_cd 89) 1 = .ok (.iconst 0, 1) := by decide +kernel
theorem tz_89_1 : tw_E sc d 89 1 [x0] st g mi mr Q = tw_E sc d 89 2 [x0] (.int 0 :: st) g mi mr Q := tw_x_iconst td_89_1 (by decide)
theorem td_89_2 : decode (tw_cd 89) 2 = .ok (.putfield 19, 3) := by decide +kernel
theorem tz_89_2 : tw_E sc d 89 2 [x0] (.int v :: .ref a :: st) g mi mr Q = (tw_kd g a = 5 ∧ tw_E sc d 89 5 [x0] st g (tw_st mi a (tw_st (mi a) 2 v)) mr Q) := tw_x_puti td_89_2 to_89 tf_5_19 rfl rfl
theorem td_89_5 : decode (tw_cd 89) 5 = .ok (.aload_n 0, 1) := by decide +kernel
theorem tz_89_5 : tw_E sc d 89 5 [some (.ref a)] st g mi mr Q = tw_E sc d 89 6 [some (.ref a)] (.ref a :: st) g mi mr Q := tw_x_aload_n td_89_5 rfl
theorem td_89_6 : decode (tw_cd 89) 6 = .ok (.iconst 0, 1) := by decide +kernel
theorem tz_89_6 : tw_E sc d 89 6 [x0] st g mi mr Q = tw_E sc d 89 7 [x0] (.int 0 :: st) g mi mr Q := tw_x_iconst td_89_6 (by decide)
theorem td_89_7 : decode (tw_cd 89) 7 = .ok (.putfield 23, 3) := by decide +kernel
theorem tz_89_7 : tw_E sc d 89 7 [x0] (.int v :: .ref a :: st) g mi mr Q = (tw_kd g a = 5 ∧ tw_E sc d 89 10 [x0] st g (tw_st mi a (tw_st (mi a) 3 v)) mr Q) := tw_x_puti td_89_7 to_89 tf_5_23 rfl rfl
theorem td_89_10 : decode (tw_cd 89) 10 = .ok (.return_, 1) := by decide +kernel
theorem tz_89_10 : tw_E sc d 89 10 [x0] [] g mi mr Q = Q none g mi mr := tw_x_vret td_89_10 tr_89
end tz_89
-- 90: Hi_size
section tz_90
variable {sc : Nat × (Nat → Int32)} {d : Nat} {x0 : Option Value} {st : List Value} {g : tw_G} {mi : tw_I} {mr : tw_Q} {Q : Option Value → tw_G → tw_I → tw_Q → Prop} {v w u : Int32} {a b : Nat} {j h : Int64} {s1 s2 s3 s4 : Value}
theorem td_90_0 : decode (tw_cd 90) 0 = .ok (.aload_n 0, 1) := by decide +kernel
theorem tz_90_0 : tw_E sc d 90 0 [some (.ref a)] st g mi mr Q = tw_E sc d 90 1 [some (.ref a)] (.ref a :: st) g mi mr Q := tw_x_aload_n td_90_0 rfl
theorem td_90_1 : decode (tw_cd 90) 1 = .ok (.getfield 19, 3) := by decide +kernel
theorem tz_90_1 : tw_E sc d 90 1 [x0] (.ref a :: st) g mi mr Q = (tw_kd g a = 5 ∧ tw_E sc d 90 4 [x0] (.int (mi a 2) :: st) g mi mr Q) := tw_x_geti td_90_1 to_90 tf_5_19 (trf_5_2)
theorem td_90_4 : decode (tw_cd 90) 4 = .ok (.ireturn, 1) := by decide +kernel
theorem tz_90_4 : tw_E sc d 90 4 [x0] ([.int v]) g mi mr Q = Q (some (.int v)) g mi mr := tw_x_iret td_90_4 tr_90
end tz_90
-- 91: Hi_hitCount
section tz_91
variable {sc : Nat × (Nat → Int32)} {d : Nat} {x0 : Option Value} {st : List Value} {g : tw_G} {mi : tw_I} {mr : tw_Q} {Q : Option Value → tw_G → tw_I → tw_Q → Prop} {v w u : Int32} {a b : Nat} {j h : Int64} {s1 s2 s3 s4 : Value}
theorem td_91_0 : decode (tw_cd 91) 0 = .ok (.aload_n 0, 1) := by decide +kernel
theorem tz_91_0 : tw_E sc d 91 0 [some (.ref a)] st g mi mr Q = tw_E sc d 91 1 [some (.ref a)] (.ref a :: st) g mi mr Q := tw_x_aload_n td_91_0 rfl
theorem td_91_1 : decode (tw_cd 91) 1 = .ok (.getfield 23, 3) := by decide +kernel
theorem tz_91_1 : tw_E sc d 91 1 [x0] (.ref a :: st) g mi mr Q = (tw_kd g a = 5 ∧ tw_E sc d 91 4 [x0] (.int (mi a 3) :: st) g mi mr Q) := tw_x_geti td_91_1 to_91 tf_5_23 (trf_5_3)
theorem td_91_4 : decode (tw_cd 91) 4 = .ok (.ireturn, 1) := by decide +kernel
theorem tz_91_4 : tw_E sc d 91 4 [x0] ([.int v]) g mi mr Q = Q (some (.int v)) g mi mr := tw_x_iret td_91_4 tr_91
end tz_91
-- 92: Hi_hasRoom
section tz_92
variable {sc : Nat × (Nat → Int32)} {d : Nat} {x0 x1 : Option Value} {st : List Value} {g : tw_G} {mi : tw_I} {mr : tw_Q} {Q : Option Value → tw_G → tw_I → tw_Q → Prop} {v w u : Int32} {a b : Nat} {j h : Int64} {s1 s2 s3 s4 : Value}
theorem td_92_0 : decode (tw_cd 92) 0 = .ok (.iload_n 1, 1) := by decide +kernel
theorem tz_92_0 : tw_E sc d 92 0 [x0, some (.int v)] st g mi mr Q = tw_E sc d 92 1 [x0, some (.int v)] (.int v :: st) g mi mr Q := tw_x_iload_n td_92_0 rfl
theorem td_92_1 : decode (tw_cd 92) 1 = .ok (.sipush 4000, 3) := by decide +kernel
theorem tz_92_1 : tw_E sc d 92 1 [x0, x1] st g mi mr Q = tw_E sc d 92 4 [x0, x1] (.int 4000 :: st) g mi mr Q := tw_x_sipush td_92_1 (by decide)
theorem td_92_4 : decode (tw_cd 92) 4 = .ok (.aload_n 0, 1) := by decide +kernel
theorem tz_92_4 : tw_E sc d 92 4 [some (.ref a), x1] st g mi mr Q = tw_E sc d 92 5 [some (.ref a), x1] (.ref a :: st) g mi mr Q := tw_x_aload_n td_92_4 rfl
theorem td_92_5 : decode (tw_cd 92) 5 = .ok (.getfield 19, 3) := by decide +kernel
theorem tz_92_5 : tw_E sc d 92 5 [x0, x1] (.ref a :: st) g mi mr Q = (tw_kd g a = 5 ∧ tw_E sc d 92 8 [x0, x1] (.int (mi a 2) :: st) g mi mr Q) := tw_x_geti td_92_5 to_92 tf_5_19 (trf_5_2)
theorem td_92_8 : decode (tw_cd 92) 8 = .ok (.isub, 1) := by decide +kernel
theorem tz_92_8 : tw_E sc d 92 8 [x0, x1] (.int w :: .int v :: st) g mi mr Q = tw_E sc d 92 9 [x0, x1] (.int (v - w) :: st) g mi mr Q := tw_x_isub td_92_8
theorem td_92_9 : decode (tw_cd 92) 9 = .ok (.if_icmp .gt 7, 3) := by decide +kernel
theorem tz_92_9 : tw_E sc d 92 9 [x0, x1] (.int w :: .int v :: st) g mi mr Q = if w < v then tw_E sc d 92 16 [x0, x1] st g mi mr Q else tw_E sc d 92 12 [x0, x1] st g mi mr Q := tw_x_ic_gt td_92_9 (by decide)
theorem td_92_12 : decode (tw_cd 92) 12 = .ok (.iconst 1, 1) := by decide +kernel
theorem tz_92_12 : tw_E sc d 92 12 [x0, x1] st g mi mr Q = tw_E sc d 92 13 [x0, x1] (.int 1 :: st) g mi mr Q := tw_x_iconst td_92_12 (by decide)
theorem td_92_13 : decode (tw_cd 92) 13 = .ok (.goto 4, 3) := by decide +kernel
theorem tz_92_13 : tw_E sc d 92 13 [x0, x1] st g mi mr Q = tw_E sc d 92 17 [x0, x1] st g mi mr Q := tw_x_goto td_92_13 (by decide)
theorem td_92_16 : decode (tw_cd 92) 16 = .ok (.iconst 0, 1) := by decide +kernel
theorem tz_92_16 : tw_E sc d 92 16 [x0, x1] st g mi mr Q = tw_E sc d 92 17 [x0, x1] (.int 0 :: st) g mi mr Q := tw_x_iconst td_92_16 (by decide)
theorem td_92_17 : decode (tw_cd 92) 17 = .ok (.ireturn, 1) := by decide +kernel
theorem tz_92_17 : tw_E sc d 92 17 [x0, x1] ([.int v]) g mi mr Q = ((v = 0 ∨ v = 1) ∧ Q (some (.int v)) g mi mr) := tw_x_zret td_92_17 tr_92
end tz_92
-- 93: Hi_add
section tz_93
variable {sc : Nat × (Nat → Int32)} {d : Nat} {x0 x1 x2 : Option Value} {st : List Value} {g : tw_G} {mi : tw_I} {mr : tw_Q} {Q : Option Value → tw_G → tw_I → tw_Q → Prop} {v w u : Int32} {a b : Nat} {j h : Int64} {s1 s2 s3 s4 : Value}
theorem td_93_0 : decode (tw_cd 93) 0 = .ok (.aload_n 0, 1) := by decide +kernel
theorem tz_93_0 : tw_E sc d 93 0 [some (.ref a), x1, x2] st g mi mr Q = tw_E sc d 93 1 [some (.ref a), x1, x2] (.ref a :: st) g mi mr Q := tw_x_aload_n td_93_0 rfl
theorem td_93_1 : decode (tw_cd 93) 1 = .ok (.iconst 1, 1) := by decide +kernel
theorem tz_93_1 : tw_E sc d 93 1 [x0, x1, x2] st g mi mr Q = tw_E sc d 93 2 [x0, x1, x2] (.int 1 :: st) g mi mr Q := tw_x_iconst td_93_1 (by decide)
theorem td_93_2 : decode (tw_cd 93) 2 = .ok (.invokevirtual 26, 3) := by decide +kernel
theorem tz_93_2 {a0 : Int32} : tw_E sc (d + 1) 93 2 [x0, x1, x2] ([.int a0, .ref a]) g mi mr Q = (tw_kd g a = 5 ∧ tw_E sc d 92 0 [some (.ref a), some (.int a0)] [] g mi mr (tw_K sc (d + 1) 93 5 [x0, x1, x2] [] Q)) := tw_x_cv (as := [.int a0]) (r := []) td_93_2 to_93 tc_5_26 to_92 rfl rfl rfl rfl
theorem td_93_5 : decode (tw_cd 93) 5 = .ok (.ifCond .eq 51, 3) := by decide +kernel
theorem tz_93_5 : tw_E sc d 93 5 [x0, x1, x2] (.int v :: st) g mi mr Q = if v = 0 then tw_E sc d 93 56 [x0, x1, x2] st g mi mr Q else tw_E sc d 93 8 [x0, x1, x2] st g mi mr Q := tw_x_if_eq td_93_5 (by decide)
theorem td_93_8 : decode (tw_cd 93) 8 = .ok (.aload_n 0, 1) := by decide +kernel
theorem tz_93_8 : tw_E sc d 93 8 [some (.ref a), x1, x2] st g mi mr Q = tw_E sc d 93 9 [some (.ref a), x1, x2] (.ref a :: st) g mi mr Q := tw_x_aload_n td_93_8 rfl
theorem td_93_9 : decode (tw_cd 93) 9 = .ok (.getfield 9, 3) := by decide +kernel
theorem tz_93_9 : tw_E sc d 93 9 [x0, x1, x2] (.ref a :: st) g mi mr Q = (tw_kd g a = 5 ∧ tw_E sc d 93 12 [x0, x1, x2] (va_rf (mr a 0) :: st) g mi mr Q) := tw_x_getr td_93_9 to_93 tf_5_9 (trf_5_0)
theorem td_93_12 : decode (tw_cd 93) 12 = .ok (.aload_n 0, 1) := by decide +kernel
theorem tz_93_12 : tw_E sc d 93 12 [some (.ref a), x1, x2] st g mi mr Q = tw_E sc d 93 13 [some (.ref a), x1, x2] (.ref a :: st) g mi mr Q := tw_x_aload_n td_93_12 rfl
theorem td_93_13 : decode (tw_cd 93) 13 = .ok (.getfield 19, 3) := by decide +kernel
theorem tz_93_13 : tw_E sc d 93 13 [x0, x1, x2] (.ref a :: st) g mi mr Q = (tw_kd g a = 5 ∧ tw_E sc d 93 16 [x0, x1, x2] (.int (mi a 2) :: st) g mi mr Q) := tw_x_geti td_93_13 to_93 tf_5_19 (trf_5_2)
theorem td_93_16 : decode (tw_cd 93) 16 = .ok (.iload_n 1, 1) := by decide +kernel
theorem tz_93_16 : tw_E sc d 93 16 [x0, some (.int v), x2] st g mi mr Q = tw_E sc d 93 17 [x0, some (.int v), x2] (.int v :: st) g mi mr Q := tw_x_iload_n td_93_16 rfl
theorem td_93_17 : decode (tw_cd 93) 17 = .ok (.iastore, 1) := by decide +kernel
theorem tz_93_17 : tw_E sc d 93 17 [x0, x1, x2] (.int w :: .int v :: .ref a :: st) g mi mr Q = ((tw_kd g a = 20 ∧ vp_in v (tw_ln g a)) ∧ tw_E sc d 93 18 [x0, x1, x2] st g (tw_st mi a (tw_st (mi a) v.toNatClampNeg w)) mr Q) := tw_x_iast td_93_17
theorem td_93_18 : decode (tw_cd 93) 18 = .ok (.aload_n 0, 1) := by decide +kernel
theorem tz_93_18 : tw_E sc d 93 18 [some (.ref a), x1, x2] st g mi mr Q = tw_E sc d 93 19 [some (.ref a), x1, x2] (.ref a :: st) g mi mr Q := tw_x_aload_n td_93_18 rfl
theorem td_93_19 : decode (tw_cd 93) 19 = .ok (.getfield 15, 3) := by decide +kernel
theorem tz_93_19 : tw_E sc d 93 19 [x0, x1, x2] (.ref a :: st) g mi mr Q = (tw_kd g a = 5 ∧ tw_E sc d 93 22 [x0, x1, x2] (va_rf (mr a 1) :: st) g mi mr Q) := tw_x_getr td_93_19 to_93 tf_5_15 (trf_5_1)
theorem td_93_22 : decode (tw_cd 93) 22 = .ok (.aload_n 0, 1) := by decide +kernel
theorem tz_93_22 : tw_E sc d 93 22 [some (.ref a), x1, x2] st g mi mr Q = tw_E sc d 93 23 [some (.ref a), x1, x2] (.ref a :: st) g mi mr Q := tw_x_aload_n td_93_22 rfl
theorem td_93_23 : decode (tw_cd 93) 23 = .ok (.getfield 19, 3) := by decide +kernel
theorem tz_93_23 : tw_E sc d 93 23 [x0, x1, x2] (.ref a :: st) g mi mr Q = (tw_kd g a = 5 ∧ tw_E sc d 93 26 [x0, x1, x2] (.int (mi a 2) :: st) g mi mr Q) := tw_x_geti td_93_23 to_93 tf_5_19 (trf_5_2)
theorem td_93_26 : decode (tw_cd 93) 26 = .ok (.iload_n 2, 1) := by decide +kernel
theorem tz_93_26 : tw_E sc d 93 26 [x0, x1, some (.int v)] st g mi mr Q = tw_E sc d 93 27 [x0, x1, some (.int v)] (.int v :: st) g mi mr Q := tw_x_iload_n td_93_26 rfl
theorem td_93_27 : decode (tw_cd 93) 27 = .ok (.bastore, 1) := by decide +kernel
theorem tz_93_27 : tw_E sc d 93 27 [x0, x1, x2] (.int w :: .int v :: .ref a :: st) g mi mr Q = ((tw_kd g a = 21 ∧ (w = 0 ∨ w = 1) ∧ vp_in v (tw_ln g a)) ∧ tw_E sc d 93 28 [x0, x1, x2] st g (tw_st mi a (tw_st (mi a) v.toNatClampNeg w)) mr Q) := tw_x_zast td_93_27
theorem td_93_28 : decode (tw_cd 93) 28 = .ok (.aload_n 0, 1) := by decide +kernel
theorem tz_93_28 : tw_E sc d 93 28 [some (.ref a), x1, x2] st g mi mr Q = tw_E sc d 93 29 [some (.ref a), x1, x2] (.ref a :: st) g mi mr Q := tw_x_aload_n td_93_28 rfl
theorem td_93_29 : decode (tw_cd 93) 29 = .ok (.dup, 1) := by decide +kernel
theorem tz_93_29 : tw_E sc d 93 29 [x0, x1, x2] (.ref a :: st) g mi mr Q = tw_E sc d 93 30 [x0, x1, x2] (.ref a :: .ref a :: st) g mi mr Q := tw_x_dup_ref td_93_29
theorem td_93_30 : decode (tw_cd 93) 30 = .ok (.getfield 19, 3) := by decide +kernel
theorem tz_93_30 : tw_E sc d 93 30 [x0, x1, x2] (.ref a :: st) g mi mr Q = (tw_kd g a = 5 ∧ tw_E sc d 93 33 [x0, x1, x2] (.int (mi a 2) :: st) g mi mr Q) := tw_x_geti td_93_30 to_93 tf_5_19 (trf_5_2)
theorem td_93_33 : decode (tw_cd 93) 33 = .ok (.iconst 1, 1) := by decide +kernel
theorem tz_93_33 : tw_E sc d 93 33 [x0, x1, x2] st g mi mr Q = tw_E sc d 93 34 [x0, x1, x2] (.int 1 :: st) g mi mr Q := tw_x_iconst td_93_33 (by decide)
theorem td_93_34 : decode (tw_cd 93) 34 = .ok (.iadd, 1) := by decide +kernel
theorem tz_93_34 : tw_E sc d 93 34 [x0, x1, x2] (.int w :: .int v :: st) g mi mr Q = tw_E sc d 93 35 [x0, x1, x2] (.int (v + w) :: st) g mi mr Q := tw_x_iadd td_93_34
theorem td_93_35 : decode (tw_cd 93) 35 = .ok (.putfield 19, 3) := by decide +kernel
theorem tz_93_35 : tw_E sc d 93 35 [x0, x1, x2] (.int v :: .ref a :: st) g mi mr Q = (tw_kd g a = 5 ∧ tw_E sc d 93 38 [x0, x1, x2] st g (tw_st mi a (tw_st (mi a) 2 v)) mr Q) := tw_x_puti td_93_35 to_93 tf_5_19 rfl rfl
theorem td_93_38 : decode (tw_cd 93) 38 = .ok (.aload_n 0, 1) := by decide +kernel
theorem tz_93_38 : tw_E sc d 93 38 [some (.ref a), x1, x2] st g mi mr Q = tw_E sc d 93 39 [some (.ref a), x1, x2] (.ref a :: st) g mi mr Q := tw_x_aload_n td_93_38 rfl
theorem td_93_39 : decode (tw_cd 93) 39 = .ok (.dup, 1) := by decide +kernel
theorem tz_93_39 : tw_E sc d 93 39 [x0, x1, x2] (.ref a :: st) g mi mr Q = tw_E sc d 93 40 [x0, x1, x2] (.ref a :: .ref a :: st) g mi mr Q := tw_x_dup_ref td_93_39
theorem td_93_40 : decode (tw_cd 93) 40 = .ok (.getfield 23, 3) := by decide +kernel
theorem tz_93_40 : tw_E sc d 93 40 [x0, x1, x2] (.ref a :: st) g mi mr Q = (tw_kd g a = 5 ∧ tw_E sc d 93 43 [x0, x1, x2] (.int (mi a 3) :: st) g mi mr Q) := tw_x_geti td_93_40 to_93 tf_5_23 (trf_5_3)
theorem td_93_43 : decode (tw_cd 93) 43 = .ok (.iload_n 2, 1) := by decide +kernel
theorem tz_93_43 : tw_E sc d 93 43 [x0, x1, some (.int v)] st g mi mr Q = tw_E sc d 93 44 [x0, x1, some (.int v)] (.int v :: st) g mi mr Q := tw_x_iload_n td_93_43 rfl
theorem td_93_44 : decode (tw_cd 93) 44 = .ok (.ifCond .eq 7, 3) := by decide +kernel
theorem tz_93_44 : tw_E sc d 93 44 [x0, x1, x2] (.int v :: st) g mi mr Q = if v = 0 then tw_E sc d 93 51 [x0, x1, x2] st g mi mr Q else tw_E sc d 93 47 [x0, x1, x2] st g mi mr Q := tw_x_if_eq td_93_44 (by decide)
theorem td_93_47 : decode (tw_cd 93) 47 = .ok (.iconst 1, 1) := by decide +kernel
theorem tz_93_47 : tw_E sc d 93 47 [x0, x1, x2] st g mi mr Q = tw_E sc d 93 48 [x0, x1, x2] (.int 1 :: st) g mi mr Q := tw_x_iconst td_93_47 (by decide)
theorem td_93_48 : decode (tw_cd 93) 48 = .ok (.goto 4, 3) := by decide +kernel
theorem tz_93_48 : tw_E sc d 93 48 [x0, x1, x2] st g mi mr Q = tw_E sc d 93 52 [x0, x1, x2] st g mi mr Q := tw_x_goto td_93_48 (by decide)
theorem td_93_51 : decode (tw_cd 93) 51 = .ok (.iconst 0, 1) := by decide +kernel
theorem tz_93_51 : tw_E sc d 93 51 [x0, x1, x2] st g mi mr Q = tw_E sc d 93 52 [x0, x1, x2] (.int 0 :: st) g mi mr Q := tw_x_iconst td_93_51 (by decide)
theorem td_93_52 : decode (tw_cd 93) 52 = .ok (.iadd, 1) := by decide +kernel
theorem tz_93_52 : tw_E sc d 93 52 [x0, x1, x2] (.int w :: .int v :: st) g mi mr Q = tw_E sc d 93 53 [x0, x1, x2] (.int (v + w) :: st) g mi mr Q := tw_x_iadd td_93_52
theorem td_93_53 : decode (tw_cd 93) 53 = .ok (.putfield 23, 3) := by decide +kernel
theorem tz_93_53 : tw_E sc d 93 53 [x0, x1, x2] (.int v :: .ref a :: st) g mi mr Q = (tw_kd g a = 5 ∧ tw_E sc d 93 56 [x0, x1, x2] st g (tw_st mi a (tw_st (mi a) 3 v)) mr Q) := tw_x_puti td_93_53 to_93 tf_5_23 rfl rfl
theorem td_93_56 : decode (tw_cd 93) 56 = .ok (.return_, 1) := by decide +kernel
theorem tz_93_56 : tw_E sc d 93 56 [x0, x1, x2] [] g mi mr Q = Q none g mi mr := tw_x_vret td_93_56 tr_93
end tz_93
-- 94: Hi_hasCome
section tz_94
variable {sc : Nat × (Nat → Int32)} {d : Nat} {x0 x1 : Option Value} {st : List Value} {g : tw_G} {mi : tw_I} {mr : tw_Q} {Q : Option Value → tw_G → tw_I → tw_Q → Prop} {v w u : Int32} {a b : Nat} {j h : Int64} {s1 s2 s3 s4 : Value}
theorem td_94_0 : decode (tw_cd 94) 0 = .ok (.iload_n 1, 1) := by decide +kernel
theorem tz_94_0 : tw_E sc d 94 0 [x0, some (.int v)] st g mi mr Q = tw_E sc d 94 1 [x0, some (.int v)] (.int v :: st) g mi mr Q := tw_x_iload_n td_94_0 rfl
theorem td_94_1 : decode (tw_cd 94) 1 = .ok (.ifCond .lt 15, 3) := by decide +kernel
theorem tz_94_1 : tw_E sc d 94 1 [x0, x1] (.int v :: st) g mi mr Q = if v < 0 then tw_E sc d 94 16 [x0, x1] st g mi mr Q else tw_E sc d 94 4 [x0, x1] st g mi mr Q := tw_x_if_lt td_94_1 (by decide)
theorem td_94_4 : decode (tw_cd 94) 4 = .ok (.iload_n 1, 1) := by decide +kernel
theorem tz_94_4 : tw_E sc d 94 4 [x0, some (.int v)] st g mi mr Q = tw_E sc d 94 5 [x0, some (.int v)] (.int v :: st) g mi mr Q := tw_x_iload_n td_94_4 rfl
theorem td_94_5 : decode (tw_cd 94) 5 = .ok (.aload_n 0, 1) := by decide +kernel
theorem tz_94_5 : tw_E sc d 94 5 [some (.ref a), x1] st g mi mr Q = tw_E sc d 94 6 [some (.ref a), x1] (.ref a :: st) g mi mr Q := tw_x_aload_n td_94_5 rfl
theorem td_94_6 : decode (tw_cd 94) 6 = .ok (.getfield 19, 3) := by decide +kernel
theorem tz_94_6 : tw_E sc d 94 6 [x0, x1] (.ref a :: st) g mi mr Q = (tw_kd g a = 5 ∧ tw_E sc d 94 9 [x0, x1] (.int (mi a 2) :: st) g mi mr Q) := tw_x_geti td_94_6 to_94 tf_5_19 (trf_5_2)
theorem td_94_9 : decode (tw_cd 94) 9 = .ok (.if_icmp .ge 7, 3) := by decide +kernel
theorem tz_94_9 : tw_E sc d 94 9 [x0, x1] (.int w :: .int v :: st) g mi mr Q = if w ≤ v then tw_E sc d 94 16 [x0, x1] st g mi mr Q else tw_E sc d 94 12 [x0, x1] st g mi mr Q := tw_x_ic_ge td_94_9 (by decide)
theorem td_94_12 : decode (tw_cd 94) 12 = .ok (.iconst 1, 1) := by decide +kernel
theorem tz_94_12 : tw_E sc d 94 12 [x0, x1] st g mi mr Q = tw_E sc d 94 13 [x0, x1] (.int 1 :: st) g mi mr Q := tw_x_iconst td_94_12 (by decide)
theorem td_94_13 : decode (tw_cd 94) 13 = .ok (.goto 4, 3) := by decide +kernel
theorem tz_94_13 : tw_E sc d 94 13 [x0, x1] st g mi mr Q = tw_E sc d 94 17 [x0, x1] st g mi mr Q := tw_x_goto td_94_13 (by decide)
theorem td_94_16 : decode (tw_cd 94) 16 = .ok (.iconst 0, 1) := by decide +kernel
theorem tz_94_16 : tw_E sc d 94 16 [x0, x1] st g mi mr Q = tw_E sc d 94 17 [x0, x1] (.int 0 :: st) g mi mr Q := tw_x_iconst td_94_16 (by decide)
theorem td_94_17 : decode (tw_cd 94) 17 = .ok (.ireturn, 1) := by decide +kernel
theorem tz_94_17 : tw_E sc d 94 17 [x0, x1] ([.int v]) g mi mr Q = ((v = 0 ∨ v = 1) ∧ Q (some (.int v)) g mi mr) := tw_x_zret td_94_17 tr_94
end tz_94
-- 95: Hi_sampleAt
section tz_95
variable {sc : Nat × (Nat → Int32)} {d : Nat} {x0 x1 : Option Value} {st : List Value} {g : tw_G} {mi : tw_I} {mr : tw_Q} {Q : Option Value → tw_G → tw_I → tw_Q → Prop} {v w u : Int32} {a b : Nat} {j h : Int64} {s1 s2 s3 s4 : Value}
theorem td_95_0 : decode (tw_cd 95) 0 = .ok (.aload_n 0, 1) := by decide +kernel
theorem tz_95_0 : tw_E sc d 95 0 [some (.ref a), x1] st g mi mr Q = tw_E sc d 95 1 [some (.ref a), x1] (.ref a :: st) g mi mr Q := tw_x_aload_n td_95_0 rfl
theorem td_95_1 : decode (tw_cd 95) 1 = .ok (.iload_n 1, 1) := by decide +kernel
theorem tz_95_1 : tw_E sc d 95 1 [x0, some (.int v)] st g mi mr Q = tw_E sc d 95 2 [x0, some (.int v)] (.int v :: st) g mi mr Q := tw_x_iload_n td_95_1 rfl
theorem td_95_2 : decode (tw_cd 95) 2 = .ok (.invokevirtual 30, 3) := by decide +kernel
theorem tz_95_2 {a0 : Int32} : tw_E sc (d + 1) 95 2 [x0, x1] ([.int a0, .ref a]) g mi mr Q = (tw_kd g a = 5 ∧ tw_E sc d 94 0 [some (.ref a), some (.int a0)] [] g mi mr (tw_K sc (d + 1) 95 5 [x0, x1] [] Q)) := tw_x_cv (as := [.int a0]) (r := []) td_95_2 to_95 tc_5_30 to_94 rfl rfl rfl rfl
theorem td_95_5 : decode (tw_cd 95) 5 = .ok (.ifCond .eq 12, 3) := by decide +kernel
theorem tz_95_5 : tw_E sc d 95 5 [x0, x1] (.int v :: st) g mi mr Q = if v = 0 then tw_E sc d 95 17 [x0, x1] st g mi mr Q else tw_E sc d 95 8 [x0, x1] st g mi mr Q := tw_x_if_eq td_95_5 (by decide)
theorem td_95_8 : decode (tw_cd 95) 8 = .ok (.aload_n 0, 1) := by decide +kernel
theorem tz_95_8 : tw_E sc d 95 8 [some (.ref a), x1] st g mi mr Q = tw_E sc d 95 9 [some (.ref a), x1] (.ref a :: st) g mi mr Q := tw_x_aload_n td_95_8 rfl
theorem td_95_9 : decode (tw_cd 95) 9 = .ok (.getfield 9, 3) := by decide +kernel
theorem tz_95_9 : tw_E sc d 95 9 [x0, x1] (.ref a :: st) g mi mr Q = (tw_kd g a = 5 ∧ tw_E sc d 95 12 [x0, x1] (va_rf (mr a 0) :: st) g mi mr Q) := tw_x_getr td_95_9 to_95 tf_5_9 (trf_5_0)
theorem td_95_12 : decode (tw_cd 95) 12 = .ok (.iload_n 1, 1) := by decide +kernel
theorem tz_95_12 : tw_E sc d 95 12 [x0, some (.int v)] st g mi mr Q = tw_E sc d 95 13 [x0, some (.int v)] (.int v :: st) g mi mr Q := tw_x_iload_n td_95_12 rfl
theorem td_95_13 : decode (tw_cd 95) 13 = .ok (.iaload, 1) := by decide +kernel
theorem tz_95_13 : tw_E sc d 95 13 [x0, x1] (.int v :: .ref a :: st) g mi mr Q = ((tw_kd g a = 20 ∧ vp_in v (tw_ln g a)) ∧ tw_E sc d 95 14 [x0, x1] (.int (mi a v.toNatClampNeg) :: st) g mi mr Q) := tw_x_iald td_95_13
theorem td_95_14 : decode (tw_cd 95) 14 = .ok (.goto 4, 3) := by decide +kernel
theorem tz_95_14 : tw_E sc d 95 14 [x0, x1] st g mi mr Q = tw_E sc d 95 18 [x0, x1] st g mi mr Q := tw_x_goto td_95_14 (by decide)
theorem td_95_17 : decode (tw_cd 95) 17 = .ok (.iconst (-1), 1) := by decide +kernel
theorem tz_95_17 : tw_E sc d 95 17 [x0, x1] st g mi mr Q = tw_E sc d 95 18 [x0, x1] (.int (-1) :: st) g mi mr Q := tw_x_iconst td_95_17 (by decide)
theorem td_95_18 : decode (tw_cd 95) 18 = .ok (.ireturn, 1) := by decide +kernel
theorem tz_95_18 : tw_E sc d 95 18 [x0, x1] ([.int v]) g mi mr Q = Q (some (.int v)) g mi mr := tw_x_iret td_95_18 tr_95
end tz_95
-- 96: Hi_wireAt
section tz_96
variable {sc : Nat × (Nat → Int32)} {d : Nat} {x0 x1 x2 : Option Value} {st : List Value} {g : tw_G} {mi : tw_I} {mr : tw_Q} {Q : Option Value → tw_G → tw_I → tw_Q → Prop} {v w u : Int32} {a b : Nat} {j h : Int64} {s1 s2 s3 s4 : Value}
theorem td_96_0 : decode (tw_cd 96) 0 = .ok (.aload_n 0, 1) := by decide +kernel
theorem tz_96_0 : tw_E sc d 96 0 [some (.ref a), x1, x2] st g mi mr Q = tw_E sc d 96 1 [some (.ref a), x1, x2] (.ref a :: st) g mi mr Q := tw_x_aload_n td_96_0 rfl
theorem td_96_1 : decode (tw_cd 96) 1 = .ok (.iload_n 1, 1) := by decide +kernel
theorem tz_96_1 : tw_E sc d 96 1 [x0, some (.int v), x2] st g mi mr Q = tw_E sc d 96 2 [x0, some (.int v), x2] (.int v :: st) g mi mr Q := tw_x_iload_n td_96_1 rfl
theorem td_96_2 : decode (tw_cd 96) 2 = .ok (.invokevirtual 30, 3) := by decide +kernel
theorem tz_96_2 {a0 : Int32} : tw_E sc (d + 1) 96 2 [x0, x1, x2] ([.int a0, .ref a]) g mi mr Q = (tw_kd g a = 5 ∧ tw_E sc d 94 0 [some (.ref a), some (.int a0)] [] g mi mr (tw_K sc (d + 1) 96 5 [x0, x1, x2] [] Q)) := tw_x_cv (as := [.int a0]) (r := []) td_96_2 to_96 tc_5_30 to_94 rfl rfl rfl rfl
theorem td_96_5 : decode (tw_cd 96) 5 = .ok (.ifCond .eq 16, 3) := by decide +kernel
theorem tz_96_5 : tw_E sc d 96 5 [x0, x1, x2] (.int v :: st) g mi mr Q = if v = 0 then tw_E sc d 96 21 [x0, x1, x2] st g mi mr Q else tw_E sc d 96 8 [x0, x1, x2] st g mi mr Q := tw_x_if_eq td_96_5 (by decide)
theorem td_96_8 : decode (tw_cd 96) 8 = .ok (.aload_n 0, 1) := by decide +kernel
theorem tz_96_8 : tw_E sc d 96 8 [some (.ref a), x1, x2] st g mi mr Q = tw_E sc d 96 9 [some (.ref a), x1, x2] (.ref a :: st) g mi mr Q := tw_x_aload_n td_96_8 rfl
theorem td_96_9 : decode (tw_cd 96) 9 = .ok (.getfield 9, 3) := by decide +kernel
theorem tz_96_9 : tw_E sc d 96 9 [x0, x1, x2] (.ref a :: st) g mi mr Q = (tw_kd g a = 5 ∧ tw_E sc d 96 12 [x0, x1, x2] (va_rf (mr a 0) :: st) g mi mr Q) := tw_x_getr td_96_9 to_96 tf_5_9 (trf_5_0)
theorem td_96_12 : decode (tw_cd 96) 12 = .ok (.iload_n 1, 1) := by decide +kernel
theorem tz_96_12 : tw_E sc d 96 12 [x0, some (.int v), x2] st g mi mr Q = tw_E sc d 96 13 [x0, some (.int v), x2] (.int v :: st) g mi mr Q := tw_x_iload_n td_96_12 rfl
theorem td_96_13 : decode (tw_cd 96) 13 = .ok (.iaload, 1) := by decide +kernel
theorem tz_96_13 : tw_E sc d 96 13 [x0, x1, x2] (.int v :: .ref a :: st) g mi mr Q = ((tw_kd g a = 20 ∧ vp_in v (tw_ln g a)) ∧ tw_E sc d 96 14 [x0, x1, x2] (.int (mi a v.toNatClampNeg) :: st) g mi mr Q) := tw_x_iald td_96_13
theorem td_96_14 : decode (tw_cd 96) 14 = .ok (.iload_n 2, 1) := by decide +kernel
theorem tz_96_14 : tw_E sc d 96 14 [x0, x1, some (.int v)] st g mi mr Q = tw_E sc d 96 15 [x0, x1, some (.int v)] (.int v :: st) g mi mr Q := tw_x_iload_n td_96_14 rfl
theorem td_96_15 : decode (tw_cd 96) 15 = .ok (.invokestatic 33, 3) := by decide +kernel
theorem tz_96_15 {a0 : Int32} {a1 : Int32} : tw_E sc (d + 1) 96 15 [x0, x1, x2] ([.int a1, .int a0]) g mi mr Q = tw_E sc d 31 0 [some (.int a0), some (.int a1)] [] g mi mr (tw_K sc (d + 1) 96 18 [x0, x1, x2] [] Q) := tw_x_cs (as := [.int a0, .int a1]) (r := []) td_96_15 to_96 tmn_5_33 tc_5_33 rfl rfl rfl rfl rfl
theorem td_96_18 : decode (tw_cd 96) 18 = .ok (.goto 4, 3) := by decide +kernel
theorem tz_96_18 : tw_E sc d 96 18 [x0, x1, x2] st g mi mr Q = tw_E sc d 96 22 [x0, x1, x2] st g mi mr Q := tw_x_goto td_96_18 (by decide)
theorem td_96_21 : decode (tw_cd 96) 21 = .ok (.iconst (-1), 1) := by decide +kernel
theorem tz_96_21 : tw_E sc d 96 21 [x0, x1, x2] st g mi mr Q = tw_E sc d 96 22 [x0, x1, x2] (.int (-1) :: st) g mi mr Q := tw_x_iconst td_96_21 (by decide)
theorem td_96_22 : decode (tw_cd 96) 22 = .ok (.ireturn, 1) := by decide +kernel
theorem tz_96_22 : tw_E sc d 96 22 [x0, x1, x2] ([.int v]) g mi mr Q = Q (some (.int v)) g mi mr := tw_x_iret td_96_22 tr_96
end tz_96
-- 97: Hi_isHit
section tz_97
variable {sc : Nat × (Nat → Int32)} {d : Nat} {x0 x1 : Option Value} {st : List Value} {g : tw_G} {mi : tw_I} {mr : tw_Q} {Q : Option Value → tw_G → tw_I → tw_Q → Prop} {v w u : Int32} {a b : Nat} {j h : Int64} {s1 s2 s3 s4 : Value}
theorem td_97_0 : decode (tw_cd 97) 0 = .ok (.aload_n 0, 1) := by decide +kernel
theorem tz_97_0 : tw_E sc d 97 0 [some (.ref a), x1] st g mi mr Q = tw_E sc d 97 1 [some (.ref a), x1] (.ref a :: st) g mi mr Q := tw_x_aload_n td_97_0 rfl
theorem td_97_1 : decode (tw_cd 97) 1 = .ok (.iload_n 1, 1) := by decide +kernel
theorem tz_97_1 : tw_E sc d 97 1 [x0, some (.int v)] st g mi mr Q = tw_E sc d 97 2 [x0, some (.int v)] (.int v :: st) g mi mr Q := tw_x_iload_n td_97_1 rfl
theorem td_97_2 : decode (tw_cd 97) 2 = .ok (.invokevirtual 30, 3) := by decide +kernel
theorem tz_97_2 {a0 : Int32} : tw_E sc (d + 1) 97 2 [x0, x1] ([.int a0, .ref a]) g mi mr Q = (tw_kd g a = 5 ∧ tw_E sc d 94 0 [some (.ref a), some (.int a0)] [] g mi mr (tw_K sc (d + 1) 97 5 [x0, x1] [] Q)) := tw_x_cv (as := [.int a0]) (r := []) td_97_2 to_97 tc_5_30 to_94 rfl rfl rfl rfl
theorem td_97_5 : decode (tw_cd 97) 5 = .ok (.ifCond .eq 16, 3) := by decide +kernel
theorem tz_97_5 : tw_E sc d 97 5 [x0, x1] (.int v :: st) g mi mr Q = if v = 0 then tw_E sc d 97 21 [x0, x1] st g mi mr Q else tw_E sc d 97 8 [x0, x1] st g mi mr Q := tw_x_if_eq td_97_5 (by decide)
theorem td_97_8 : decode (tw_cd 97) 8 = .ok (.aload_n 0, 1) := by decide +kernel
theorem tz_97_8 : tw_E sc d 97 8 [some (.ref a), x1] st g mi mr Q = tw_E sc d 97 9 [some (.ref a), x1] (.ref a :: st) g mi mr Q := tw_x_aload_n td_97_8 rfl
theorem td_97_9 : decode (tw_cd 97) 9 = .ok (.getfield 15, 3) := by decide +kernel
theorem tz_97_9 : tw_E sc d 97 9 [x0, x1] (.ref a :: st) g mi mr Q = (tw_kd g a = 5 ∧ tw_E sc d 97 12 [x0, x1] (va_rf (mr a 1) :: st) g mi mr Q) := tw_x_getr td_97_9 to_97 tf_5_15 (trf_5_1)
theorem td_97_12 : decode (tw_cd 97) 12 = .ok (.iload_n 1, 1) := by decide +kernel
theorem tz_97_12 : tw_E sc d 97 12 [x0, some (.int v)] st g mi mr Q = tw_E sc d 97 13 [x0, some (.int v)] (.int v :: st) g mi mr Q := tw_x_iload_n td_97_12 rfl
theorem td_97_13 : decode (tw_cd 97) 13 = .ok (.baload, 1) := by decide +kernel
theorem tz_97_13 : tw_E sc d 97 13 [x0, x1] (.int v :: .ref a :: st) g mi mr Q = ((tw_kd g a = 21 ∧ vp_in v (tw_ln g a)) ∧ tw_E sc d 97 14 [x0, x1] (.int (mi a v.toNatClampNeg) :: st) g mi mr Q) := tw_x_zald td_97_13
theorem td_97_14 : decode (tw_cd 97) 14 = .ok (.ifCond .eq 7, 3) := by decide +kernel
theorem tz_97_14 : tw_E sc d 97 14 [x0, x1] (.int v :: st) g mi mr Q = if v = 0 then tw_E sc d 97 21 [x0, x1] st g mi mr Q else tw_E sc d 97 17 [x0, x1] st g mi mr Q := tw_x_if_eq td_97_14 (by decide)
theorem td_97_17 : decode (tw_cd 97) 17 = .ok (.iconst 1, 1) := by decide +kernel
theorem tz_97_17 : tw_E sc d 97 17 [x0, x1] st g mi mr Q = tw_E sc d 97 18 [x0, x1] (.int 1 :: st) g mi mr Q := tw_x_iconst td_97_17 (by decide)
theorem td_97_18 : decode (tw_cd 97) 18 = .ok (.goto 4, 3) := by decide +kernel
theorem tz_97_18 : tw_E sc d 97 18 [x0, x1] st g mi mr Q = tw_E sc d 97 22 [x0, x1] st g mi mr Q := tw_x_goto td_97_18 (by decide)
theorem td_97_21 : decode (tw_cd 97) 21 = .ok (.iconst 0, 1) := by decide +kernel
theorem tz_97_21 : tw_E sc d 97 21 [x0, x1] st g mi mr Q = tw_E sc d 97 22 [x0, x1] (.int 0 :: st) g mi mr Q := tw_x_iconst td_97_21 (by decide)
theorem td_97_22 : decode (tw_cd 97) 22 = .ok (.ireturn, 1) := by decide +kernel
theorem tz_97_22 : tw_E sc d 97 22 [x0, x1] ([.int v]) g mi mr Q = ((v = 0 ∨ v = 1) ∧ Q (some (.int v)) g mi mr) := tw_x_zret td_97_22 tr_97
end tz_97
-- 98: Hi_hitTick
section tz_98
variable {sc : Nat × (Nat → Int32)} {d : Nat} {x0 x1 x2 x3 : Option Value} {st : List Value} {g : tw_G} {mi : tw_I} {mr : tw_Q} {Q : Option Value → tw_G → tw_I → tw_Q → Prop} {v w u : Int32} {a b : Nat} {j h : Int64} {s1 s2 s3 s4 : Value}
theorem td_98_0 : decode (tw_cd 98) 0 = .ok (.iload_n 1, 1) := by decide +kernel
theorem tz_98_0 : tw_E sc d 98 0 [x0, some (.int v), x2, x3] st g mi mr Q = tw_E sc d 98 1 [x0, some (.int v), x2, x3] (.int v :: st) g mi mr Q := tw_x_iload_n td_98_0 rfl
theorem td_98_1 : decode (tw_cd 98) 1 = .ok (.ifCond .lt 11, 3) := by decide +kernel
theorem tz_98_1 : tw_E sc d 98 1 [x0, x1, x2, x3] (.int v :: st) g mi mr Q = if v < 0 then tw_E sc d 98 12 [x0, x1, x2, x3] st g mi mr Q else tw_E sc d 98 4 [x0, x1, x2, x3] st g mi mr Q := tw_x_if_lt td_98_1 (by decide)
theorem td_98_4 : decode (tw_cd 98) 4 = .ok (.iload_n 1, 1) := by decide +kernel
theorem tz_98_4 : tw_E sc d 98 4 [x0, some (.int v), x2, x3] st g mi mr Q = tw_E sc d 98 5 [x0, some (.int v), x2, x3] (.int v :: st) g mi mr Q := tw_x_iload_n td_98_4 rfl
theorem td_98_5 : decode (tw_cd 98) 5 = .ok (.aload_n 0, 1) := by decide +kernel
theorem tz_98_5 : tw_E sc d 98 5 [some (.ref a), x1, x2, x3] st g mi mr Q = tw_E sc d 98 6 [some (.ref a), x1, x2, x3] (.ref a :: st) g mi mr Q := tw_x_aload_n td_98_5 rfl
theorem td_98_6 : decode (tw_cd 98) 6 = .ok (.getfield 23, 3) := by decide +kernel
theorem tz_98_6 : tw_E sc d 98 6 [x0, x1, x2, x3] (.ref a :: st) g mi mr Q = (tw_kd g a = 5 ∧ tw_E sc d 98 9 [x0, x1, x2, x3] (.int (mi a 3) :: st) g mi mr Q) := tw_x_geti td_98_6 to_98 tf_5_23 (trf_5_3)
theorem td_98_9 : decode (tw_cd 98) 9 = .ok (.if_icmp .lt 6, 3) := by decide +kernel
theorem tz_98_9 : tw_E sc d 98 9 [x0, x1, x2, x3] (.int w :: .int v :: st) g mi mr Q = if v < w then tw_E sc d 98 15 [x0, x1, x2, x3] st g mi mr Q else tw_E sc d 98 12 [x0, x1, x2, x3] st g mi mr Q := tw_x_ic_lt td_98_9 (by decide)
theorem td_98_12 : decode (tw_cd 98) 12 = .ok (.bipush (-9), 2) := by decide +kernel
theorem tz_98_12 : tw_E sc d 98 12 [x0, x1, x2, x3] st g mi mr Q = tw_E sc d 98 14 [x0, x1, x2, x3] (.int (-9) :: st) g mi mr Q := tw_x_bipush td_98_12 (by decide)
theorem td_98_14 : decode (tw_cd 98) 14 = .ok (.ireturn, 1) := by decide +kernel
theorem tz_98_14 : tw_E sc d 98 14 [x0, x1, x2, x3] ([.int v]) g mi mr Q = Q (some (.int v)) g mi mr := tw_x_iret td_98_14 tr_98
theorem td_98_15 : decode (tw_cd 98) 15 = .ok (.iload_n 1, 1) := by decide +kernel
theorem tz_98_15 : tw_E sc d 98 15 [x0, some (.int v), x2, x3] st g mi mr Q = tw_E sc d 98 16 [x0, some (.int v), x2, x3] (.int v :: st) g mi mr Q := tw_x_iload_n td_98_15 rfl
theorem td_98_16 : decode (tw_cd 98) 16 = .ok (.istore_n 2, 1) := by decide +kernel
theorem tz_98_16 : tw_E sc d 98 16 [x0, x1, x2, x3] (.int v :: st) g mi mr Q = tw_E sc d 98 17 [x0, x1, some (.int v), x3] st g mi mr Q := tw_x_istore_n td_98_16 tp_98 rfl
theorem td_98_17 : decode (tw_cd 98) 17 = .ok (.iconst 0, 1) := by decide +kernel
theorem tz_98_17 : tw_E sc d 98 17 [x0, x1, x2, x3] st g mi mr Q = tw_E sc d 98 18 [x0, x1, x2, x3] (.int 0 :: st) g mi mr Q := tw_x_iconst td_98_17 (by decide)
theorem td_98_18 : decode (tw_cd 98) 18 = .ok (.istore_n 3, 1) := by decide +kernel
theorem tz_98_18 : tw_E sc d 98 18 [x0, x1, x2, x3] (.int v :: st) g mi mr Q = tw_E sc d 98 19 [x0, x1, x2, some (.int v)] st g mi mr Q := tw_x_istore_n td_98_18 tp_98 rfl
theorem td_98_19 : decode (tw_cd 98) 19 = .ok (.iload_n 3, 1) := by decide +kernel
theorem tz_98_19 : tw_E sc d 98 19 [x0, x1, x2, some (.int v)] st g mi mr Q = tw_E sc d 98 20 [x0, x1, x2, some (.int v)] (.int v :: st) g mi mr Q := tw_x_iload_n td_98_19 rfl
theorem td_98_20 : decode (tw_cd 98) 20 = .ok (.aload_n 0, 1) := by decide +kernel
theorem tz_98_20 : tw_E sc d 98 20 [some (.ref a), x1, x2, x3] st g mi mr Q = tw_E sc d 98 21 [some (.ref a), x1, x2, x3] (.ref a :: st) g mi mr Q := tw_x_aload_n td_98_20 rfl
theorem td_98_21 : decode (tw_cd 98) 21 = .ok (.getfield 19, 3) := by decide +kernel
theorem tz_98_21 : tw_E sc d 98 21 [x0, x1, x2, x3] (.ref a :: st) g mi mr Q = (tw_kd g a = 5 ∧ tw_E sc d 98 24 [x0, x1, x2, x3] (.int (mi a 2) :: st) g mi mr Q) := tw_x_geti td_98_21 to_98 tf_5_19 (trf_5_2)
theorem td_98_24 : decode (tw_cd 98) 24 = .ok (.if_icmp .ge 27, 3) := by decide +kernel
theorem tz_98_24 : tw_E sc d 98 24 [x0, x1, x2, x3] (.int w :: .int v :: st) g mi mr Q = if w ≤ v then tw_E sc d 98 51 [x0, x1, x2, x3] st g mi mr Q else tw_E sc d 98 27 [x0, x1, x2, x3] st g mi mr Q := tw_x_ic_ge td_98_24 (by decide)
theorem td_98_27 : decode (tw_cd 98) 27 = .ok (.aload_n 0, 1) := by decide +kernel
theorem tz_98_27 : tw_E sc d 98 27 [some (.ref a), x1, x2, x3] st g mi mr Q = tw_E sc d 98 28 [some (.ref a), x1, x2, x3] (.ref a :: st) g mi mr Q := tw_x_aload_n td_98_27 rfl
theorem td_98_28 : decode (tw_cd 98) 28 = .ok (.getfield 15, 3) := by decide +kernel
theorem tz_98_28 : tw_E sc d 98 28 [x0, x1, x2, x3] (.ref a :: st) g mi mr Q = (tw_kd g a = 5 ∧ tw_E sc d 98 31 [x0, x1, x2, x3] (va_rf (mr a 1) :: st) g mi mr Q) := tw_x_getr td_98_28 to_98 tf_5_15 (trf_5_1)
theorem td_98_31 : decode (tw_cd 98) 31 = .ok (.iload_n 3, 1) := by decide +kernel
theorem tz_98_31 : tw_E sc d 98 31 [x0, x1, x2, some (.int v)] st g mi mr Q = tw_E sc d 98 32 [x0, x1, x2, some (.int v)] (.int v :: st) g mi mr Q := tw_x_iload_n td_98_31 rfl
theorem td_98_32 : decode (tw_cd 98) 32 = .ok (.baload, 1) := by decide +kernel
theorem tz_98_32 : tw_E sc d 98 32 [x0, x1, x2, x3] (.int v :: .ref a :: st) g mi mr Q = ((tw_kd g a = 21 ∧ vp_in v (tw_ln g a)) ∧ tw_E sc d 98 33 [x0, x1, x2, x3] (.int (mi a v.toNatClampNeg) :: st) g mi mr Q) := tw_x_zald td_98_32
theorem td_98_33 : decode (tw_cd 98) 33 = .ok (.ifCond .eq 12, 3) := by decide +kernel
theorem tz_98_33 : tw_E sc d 98 33 [x0, x1, x2, x3] (.int v :: st) g mi mr Q = if v = 0 then tw_E sc d 98 45 [x0, x1, x2, x3] st g mi mr Q else tw_E sc d 98 36 [x0, x1, x2, x3] st g mi mr Q := tw_x_if_eq td_98_33 (by decide)
theorem td_98_36 : decode (tw_cd 98) 36 = .ok (.iload_n 2, 1) := by decide +kernel
theorem tz_98_36 : tw_E sc d 98 36 [x0, x1, some (.int v), x3] st g mi mr Q = tw_E sc d 98 37 [x0, x1, some (.int v), x3] (.int v :: st) g mi mr Q := tw_x_iload_n td_98_36 rfl
theorem td_98_37 : decode (tw_cd 98) 37 = .ok (.ifCond .ne 5, 3) := by decide +kernel
theorem tz_98_37 : tw_E sc d 98 37 [x0, x1, x2, x3] (.int v :: st) g mi mr Q = if ¬ v = 0 then tw_E sc d 98 42 [x0, x1, x2, x3] st g mi mr Q else tw_E sc d 98 40 [x0, x1, x2, x3] st g mi mr Q := tw_x_if_ne td_98_37 (by decide)
theorem td_98_40 : decode (tw_cd 98) 40 = .ok (.iload_n 3, 1) := by decide +kernel
theorem tz_98_40 : tw_E sc d 98 40 [x0, x1, x2, some (.int v)] st g mi mr Q = tw_E sc d 98 41 [x0, x1, x2, some (.int v)] (.int v :: st) g mi mr Q := tw_x_iload_n td_98_40 rfl
theorem td_98_41 : decode (tw_cd 98) 41 = .ok (.ireturn, 1) := by decide +kernel
theorem tz_98_41 : tw_E sc d 98 41 [x0, x1, x2, x3] ([.int v]) g mi mr Q = Q (some (.int v)) g mi mr := tw_x_iret td_98_41 tr_98
theorem td_98_42 : decode (tw_cd 98) 42 = .ok (.iinc 2 (-1), 3) := by decide +kernel
theorem tz_98_42 : tw_E sc d 98 42 [x0, x1, some (.int v), x3] st g mi mr Q = tw_E sc d 98 45 [x0, x1, some (.int (v + (-1))), x3] st g mi mr Q := tw_x_iinc td_98_42 rfl (by first | rfl | (exact congrArg (v + ·) (by decide))) tp_98 rfl
theorem td_98_45 : decode (tw_cd 98) 45 = .ok (.iinc 3 1, 3) := by decide +kernel
theorem tz_98_45 : tw_E sc d 98 45 [x0, x1, x2, some (.int v)] st g mi mr Q = tw_E sc d 98 48 [x0, x1, x2, some (.int (v + 1))] st g mi mr Q := tw_x_iinc td_98_45 rfl (by first | rfl | (exact congrArg (v + ·) (by decide))) tp_98 rfl
theorem td_98_48 : decode (tw_cd 98) 48 = .ok (.goto (-29), 3) := by decide +kernel
theorem tz_98_48 : tw_E sc d 98 48 [x0, x1, x2, x3] st g mi mr Q = tw_E sc d 98 19 [x0, x1, x2, x3] st g mi mr Q := tw_x_goto td_98_48 (by decide)
theorem td_98_51 : decode (tw_cd 98) 51 = .ok (.bipush (-9), 2) := by decide +kernel
theorem tz_98_51 : tw_E sc d 98 51 [x0, x1, x2, x3] st g mi mr Q = tw_E sc d 98 53 [x0, x1, x2, x3] (.int (-9) :: st) g mi mr Q := tw_x_bipush td_98_51 (by decide)
theorem td_98_53 : decode (tw_cd 98) 53 = .ok (.ireturn, 1) := by decide +kernel
theorem tz_98_53 : tw_E sc d 98 53 [x0, x1, x2, x3] ([.int v]) g mi mr Q = Q (some (.int v)) g mi mr := tw_x_iret td_98_53 tr_98
end tz_98
-- 99: Ca_init
section tz_99
variable {sc : Nat × (Nat → Int32)} {d : Nat} {x0 : Option Value} {st : List Value} {g : tw_G} {mi : tw_I} {mr : tw_Q} {Q : Option Value → tw_G → tw_I → tw_Q → Prop} {v w u : Int32} {a b : Nat} {j h : Int64} {s1 s2 s3 s4 : Value}
theorem td_99_0 : decode (tw_cd 99) 0 = .ok (.aload_n 0, 1) := by decide +kernel
theorem tz_99_0 : tw_E sc d 99 0 [some (.ref a)] st g mi mr Q = tw_E sc d 99 1 [some (.ref a)] (.ref a :: st) g mi mr Q := tw_x_aload_n td_99_0 rfl
theorem td_99_1 : decode (tw_cd 99) 1 = .ok (.invokespecial 3, 3) := by decide +kernel
theorem tz_99_1 : tw_E sc (d + 1) 99 1 [x0] (.ref a :: []) g mi mr Q = tw_E sc (d + 1) 99 4 [x0] [] g mi mr Q := tw_x_obj td_99_1 to_99 toi_6 (by simp)
theorem td_99_4 : decode (tw_cd 99) 4 = .ok (.aload_n 0, 1) := by decide +kernel
theorem tz_99_4 : tw_E sc d 99 4 [some (.ref a)] st g mi mr Q = tw_E sc d 99 5 [some (.ref a)] (.ref a :: st) g mi mr Q := tw_x_aload_n td_99_4 rfl
theorem td_99_5 : decode (tw_cd 99) 5 = .ok (.sipush 1001, 3) := by decide +kernel
theorem tz_99_5 : tw_E sc d 99 5 [x0] st g mi mr Q = tw_E sc d 99 8 [x0] (.int 1001 :: st) g mi mr Q := tw_x_sipush td_99_5 (by decide)
theorem td_99_8 : decode (tw_cd 99) 8 = .ok (.newarray .int, 2) := by decide +kernel
theorem tz_99_8 : tw_E sc d 99 8 [x0] (.int 1001 :: st) g mi mr Q = tw_E sc d 99 10 [x0] (.ref g.1 :: st) (tw_gn g 20 1001 1001) (tw_st mi g.1 (fun _ => 0)) (tw_st mr g.1 (fun _ => none)) Q := tw_x_newi td_99_8 (by decide)
theorem td_99_10 : decode (tw_cd 99) 10 = .ok (.putfield 9, 3) := by decide +kernel
theorem tz_99_10 : tw_E sc d 99 10 [x0] (.ref b :: .ref a :: st) g mi mr Q = (tw_kd g a = 6 ∧ tw_E sc d 99 13 [x0] st g mi (tw_st mr a (tw_st (mr a) 0 (some b))) Q) := tw_x_putr td_99_10 to_99 tf_6_9 (Or.inr ⟨rfl, rfl⟩) (trf_6_0)
theorem td_99_13 : decode (tw_cd 99) 13 = .ok (.return_, 1) := by decide +kernel
theorem tz_99_13 : tw_E sc d 99 13 [x0] [] g mi mr Q = Q none g mi mr := tw_x_vret td_99_13 tr_99
end tz_99
-- 100: Ca_clear
section tz_100
variable {sc : Nat × (Nat → Int32)} {d : Nat} {x0 : Option Value} {st : List Value} {g : tw_G} {mi : tw_I} {mr : tw_Q} {Q : Option Value → tw_G → tw_I → tw_Q → Prop} {v w u : Int32} {a b : Nat} {j h : Int64} {s1 s2 s3 s4 : Value}
theorem td_100_0 : decode (tw_cd 100) 0 = .ok (.aload_n 0, 1) := by decide +kernel
theorem tz_100_0 : tw_E sc d 100 0 [some (.ref a)] st g mi mr Q = tw_E sc d 100 1 [some (.ref a)] (.ref a :: st) g mi mr Q := tw_x_aload_n td_100_0 rfl
theorem td_100_1 : decode (tw_cd 100) 1 = .ok (.iconst 0, 1) := by decide +kernel
theorem tz_100_1 : tw_E sc d 100 1 [x0] st g mi mr Q = tw_E sc d 100 2 [x0] (.int 0 :: st) g mi mr Q := tw_x_iconst td_100_1 (by decide)
theorem td_100_2 : decode (tw_cd 100) 2 = .ok (.putfield 15, 3) := by decide +kernel
theorem tz_100_2 : tw_E sc d 100 2 [x0] (.int v :: .ref a :: st) g mi mr Q = (tw_kd g a = 6 ∧ tw_E sc d 100 5 [x0] st g (tw_st mi a (tw_st (mi a) 1 v)) mr Q) := tw_x_puti td_100_2 to_100 tf_6_15 rfl rfl
theorem td_100_5 : decode (tw_cd 100) 5 = .ok (.return_, 1) := by decide +kernel
theorem tz_100_5 : tw_E sc d 100 5 [x0] [] g mi mr Q = Q none g mi mr := tw_x_vret td_100_5 tr_100
end tz_100
-- 101: Ca_size
section tz_101
variable {sc : Nat × (Nat → Int32)} {d : Nat} {x0 : Option Value} {st : List Value} {g : tw_G} {mi : tw_I} {mr : tw_Q} {Q : Option Value → tw_G → tw_I → tw_Q → Prop} {v w u : Int32} {a b : Nat} {j h : Int64} {s1 s2 s3 s4 : Value}
theorem td_101_0 : decode (tw_cd 101) 0 = .ok (.aload_n 0, 1) := by decide +kernel
theorem tz_101_0 : tw_E sc d 101 0 [some (.ref a)] st g mi mr Q = tw_E sc d 101 1 [some (.ref a)] (.ref a :: st) g mi mr Q := tw_x_aload_n td_101_0 rfl
theorem td_101_1 : decode (tw_cd 101) 1 = .ok (.getfield 15, 3) := by decide +kernel
theorem tz_101_1 : tw_E sc d 101 1 [x0] (.ref a :: st) g mi mr Q = (tw_kd g a = 6 ∧ tw_E sc d 101 4 [x0] (.int (mi a 1) :: st) g mi mr Q) := tw_x_geti td_101_1 to_101 tf_6_15 (trf_6_1)
theorem td_101_4 : decode (tw_cd 101) 4 = .ok (.ireturn, 1) := by decide +kernel
theorem tz_101_4 : tw_E sc d 101 4 [x0] ([.int v]) g mi mr Q = Q (some (.int v)) g mi mr := tw_x_iret td_101_4 tr_101
end tz_101
-- 102: Ca_add
section tz_102
variable {sc : Nat × (Nat → Int32)} {d : Nat} {x0 x1 : Option Value} {st : List Value} {g : tw_G} {mi : tw_I} {mr : tw_Q} {Q : Option Value → tw_G → tw_I → tw_Q → Prop} {v w u : Int32} {a b : Nat} {j h : Int64} {s1 s2 s3 s4 : Value}
theorem td_102_0 : decode (tw_cd 102) 0 = .ok (.aload_n 0, 1) := by decide +kernel
theorem tz_102_0 : tw_E sc d 102 0 [some (.ref a), x1] st g mi mr Q = tw_E sc d 102 1 [some (.ref a), x1] (.ref a :: st) g mi mr Q := tw_x_aload_n td_102_0 rfl
theorem td_102_1 : decode (tw_cd 102) 1 = .ok (.getfield 15, 3) := by decide +kernel
theorem tz_102_1 : tw_E sc d 102 1 [x0, x1] (.ref a :: st) g mi mr Q = (tw_kd g a = 6 ∧ tw_E sc d 102 4 [x0, x1] (.int (mi a 1) :: st) g mi mr Q) := tw_x_geti td_102_1 to_102 tf_6_15 (trf_6_1)
theorem td_102_4 : decode (tw_cd 102) 4 = .ok (.sipush 1001, 3) := by decide +kernel
theorem tz_102_4 : tw_E sc d 102 4 [x0, x1] st g mi mr Q = tw_E sc d 102 7 [x0, x1] (.int 1001 :: st) g mi mr Q := tw_x_sipush td_102_4 (by decide)
theorem td_102_7 : decode (tw_cd 102) 7 = .ok (.if_icmp .ge 23, 3) := by decide +kernel
theorem tz_102_7 : tw_E sc d 102 7 [x0, x1] (.int w :: .int v :: st) g mi mr Q = if w ≤ v then tw_E sc d 102 30 [x0, x1] st g mi mr Q else tw_E sc d 102 10 [x0, x1] st g mi mr Q := tw_x_ic_ge td_102_7 (by decide)
theorem td_102_10 : decode (tw_cd 102) 10 = .ok (.aload_n 0, 1) := by decide +kernel
theorem tz_102_10 : tw_E sc d 102 10 [some (.ref a), x1] st g mi mr Q = tw_E sc d 102 11 [some (.ref a), x1] (.ref a :: st) g mi mr Q := tw_x_aload_n td_102_10 rfl
theorem td_102_11 : decode (tw_cd 102) 11 = .ok (.getfield 9, 3) := by decide +kernel
theorem tz_102_11 : tw_E sc d 102 11 [x0, x1] (.ref a :: st) g mi mr Q = (tw_kd g a = 6 ∧ tw_E sc d 102 14 [x0, x1] (va_rf (mr a 0) :: st) g mi mr Q) := tw_x_getr td_102_11 to_102 tf_6_9 (trf_6_0)
theorem td_102_14 : decode (tw_cd 102) 14 = .ok (.aload_n 0, 1) := by decide +kernel
theorem tz_102_14 : tw_E sc d 102 14 [some (.ref a), x1] st g mi mr Q = tw_E sc d 102 15 [some (.ref a), x1] (.ref a :: st) g mi mr Q := tw_x_aload_n td_102_14 rfl
theorem td_102_15 : decode (tw_cd 102) 15 = .ok (.getfield 15, 3) := by decide +kernel
theorem tz_102_15 : tw_E sc d 102 15 [x0, x1] (.ref a :: st) g mi mr Q = (tw_kd g a = 6 ∧ tw_E sc d 102 18 [x0, x1] (.int (mi a 1) :: st) g mi mr Q) := tw_x_geti td_102_15 to_102 tf_6_15 (trf_6_1)
theorem td_102_18 : decode (tw_cd 102) 18 = .ok (.iload_n 1, 1) := by decide +kernel
theorem tz_102_18 : tw_E sc d 102 18 [x0, some (.int v)] st g mi mr Q = tw_E sc d 102 19 [x0, some (.int v)] (.int v :: st) g mi mr Q := tw_x_iload_n td_102_18 rfl
theorem td_102_19 : decode (tw_cd 102) 19 = .ok (.iastore, 1) := by decide +kernel
theorem tz_102_19 : tw_E sc d 102 19 [x0, x1] (.int w :: .int v :: .ref a :: st) g mi mr Q = ((tw_kd g a = 20 ∧ vp_in v (tw_ln g a)) ∧ tw_E sc d 102 20 [x0, x1] st g (tw_st mi a (tw_st (mi a) v.toNatClampNeg w)) mr Q) := tw_x_iast td_102_19
theorem td_102_20 : decode (tw_cd 102) 20 = .ok (.aload_n 0, 1) := by decide +kernel
theorem tz_102_20 : tw_E sc d 102 20 [some (.ref a), x1] st g mi mr Q = tw_E sc d 102 21 [some (.ref a), x1] (.ref a :: st) g mi mr Q := tw_x_aload_n td_102_20 rfl
theorem td_102_21 : decode (tw_cd 102) 21 = .ok (.dup, 1) := by decide +kernel
theorem tz_102_21 : tw_E sc d 102 21 [x0, x1] (.ref a :: st) g mi mr Q = tw_E sc d 102 22 [x0, x1] (.ref a :: .ref a :: st) g mi mr Q := tw_x_dup_ref td_102_21
theorem td_102_22 : decode (tw_cd 102) 22 = .ok (.getfield 15, 3) := by decide +kernel
theorem tz_102_22 : tw_E sc d 102 22 [x0, x1] (.ref a :: st) g mi mr Q = (tw_kd g a = 6 ∧ tw_E sc d 102 25 [x0, x1] (.int (mi a 1) :: st) g mi mr Q) := tw_x_geti td_102_22 to_102 tf_6_15 (trf_6_1)
theorem td_102_25 : decode (tw_cd 102) 25 = .ok (.iconst 1, 1) := by decide +kernel
theorem tz_102_25 : tw_E sc d 102 25 [x0, x1] st g mi mr Q = tw_E sc d 102 26 [x0, x1] (.int 1 :: st) g mi mr Q := tw_x_iconst td_102_25 (by decide)
theorem td_102_26 : decode (tw_cd 102) 26 = .ok (.iadd, 1) := by decide +kernel
theorem tz_102_26 : tw_E sc d 102 26 [x0, x1] (.int w :: .int v :: st) g mi mr Q = tw_E sc d 102 27 [x0, x1] (.int (v + w) :: st) g mi mr Q := tw_x_iadd td_102_26
theorem td_102_27 : decode (tw_cd 102) 27 = .ok (.putfield 15, 3) := by decide +kernel
theorem tz_102_27 : tw_E sc d 102 27 [x0, x1] (.int v :: .ref a :: st) g mi mr Q = (tw_kd g a = 6 ∧ tw_E sc d 102 30 [x0, x1] st g (tw_st mi a (tw_st (mi a) 1 v)) mr Q) := tw_x_puti td_102_27 to_102 tf_6_15 rfl rfl
theorem td_102_30 : decode (tw_cd 102) 30 = .ok (.return_, 1) := by decide +kernel
theorem tz_102_30 : tw_E sc d 102 30 [x0, x1] [] g mi mr Q = Q none g mi mr := tw_x_vret td_102_30 tr_102
end tz_102
-- 103: Ca_sampleAt
section tz_103
variable {sc : Nat × (Nat → Int32)} {d : Nat} {x0 x1 : Option Value} {st : List Value} {g : tw_G} {mi : tw_I} {mr : tw_Q} {Q : Option Value → tw_G → tw_I → tw_Q → Prop} {v w u : Int32} {a b : Nat} {j h : Int64} {s1 s2 s3 s4 : Value}
theorem td_103_0 : decode (tw_cd 103) 0 = .ok (.iload_n 1, 1) := by decide +kernel
theorem tz_103_0 : tw_E sc d 103 0 [x0, some (.int v)] st g mi mr Q = tw_E sc d 103 1 [x0, some (.int v)] (.int v :: st) g mi mr Q := tw_x_iload_n td_103_0 rfl
theorem td_103_1 : decode (tw_cd 103) 1 = .ok (.ifCond .lt 20, 3) := by decide +kernel
theorem tz_103_1 : tw_E sc d 103 1 [x0, x1] (.int v :: st) g mi mr Q = if v < 0 then tw_E sc d 103 21 [x0, x1] st g mi mr Q else tw_E sc d 103 4 [x0, x1] st g mi mr Q := tw_x_if_lt td_103_1 (by decide)
theorem td_103_4 : decode (tw_cd 103) 4 = .ok (.iload_n 1, 1) := by decide +kernel
theorem tz_103_4 : tw_E sc d 103 4 [x0, some (.int v)] st g mi mr Q = tw_E sc d 103 5 [x0, some (.int v)] (.int v :: st) g mi mr Q := tw_x_iload_n td_103_4 rfl
theorem td_103_5 : decode (tw_cd 103) 5 = .ok (.aload_n 0, 1) := by decide +kernel
theorem tz_103_5 : tw_E sc d 103 5 [some (.ref a), x1] st g mi mr Q = tw_E sc d 103 6 [some (.ref a), x1] (.ref a :: st) g mi mr Q := tw_x_aload_n td_103_5 rfl
theorem td_103_6 : decode (tw_cd 103) 6 = .ok (.getfield 15, 3) := by decide +kernel
theorem tz_103_6 : tw_E sc d 103 6 [x0, x1] (.ref a :: st) g mi mr Q = (tw_kd g a = 6 ∧ tw_E sc d 103 9 [x0, x1] (.int (mi a 1) :: st) g mi mr Q) := tw_x_geti td_103_6 to_103 tf_6_15 (trf_6_1)
theorem td_103_9 : decode (tw_cd 103) 9 = .ok (.if_icmp .ge 12, 3) := by decide +kernel
theorem tz_103_9 : tw_E sc d 103 9 [x0, x1] (.int w :: .int v :: st) g mi mr Q = if w ≤ v then tw_E sc d 103 21 [x0, x1] st g mi mr Q else tw_E sc d 103 12 [x0, x1] st g mi mr Q := tw_x_ic_ge td_103_9 (by decide)
theorem td_103_12 : decode (tw_cd 103) 12 = .ok (.aload_n 0, 1) := by decide +kernel
theorem tz_103_12 : tw_E sc d 103 12 [some (.ref a), x1] st g mi mr Q = tw_E sc d 103 13 [some (.ref a), x1] (.ref a :: st) g mi mr Q := tw_x_aload_n td_103_12 rfl
theorem td_103_13 : decode (tw_cd 103) 13 = .ok (.getfield 9, 3) := by decide +kernel
theorem tz_103_13 : tw_E sc d 103 13 [x0, x1] (.ref a :: st) g mi mr Q = (tw_kd g a = 6 ∧ tw_E sc d 103 16 [x0, x1] (va_rf (mr a 0) :: st) g mi mr Q) := tw_x_getr td_103_13 to_103 tf_6_9 (trf_6_0)
theorem td_103_16 : decode (tw_cd 103) 16 = .ok (.iload_n 1, 1) := by decide +kernel
theorem tz_103_16 : tw_E sc d 103 16 [x0, some (.int v)] st g mi mr Q = tw_E sc d 103 17 [x0, some (.int v)] (.int v :: st) g mi mr Q := tw_x_iload_n td_103_16 rfl
theorem td_103_17 : decode (tw_cd 103) 17 = .ok (.iaload, 1) := by decide +kernel
theorem tz_103_17 : tw_E sc d 103 17 [x0, x1] (.int v :: .ref a :: st) g mi mr Q = ((tw_kd g a = 20 ∧ vp_in v (tw_ln g a)) ∧ tw_E sc d 103 18 [x0, x1] (.int (mi a v.toNatClampNeg) :: st) g mi mr Q) := tw_x_iald td_103_17
theorem td_103_18 : decode (tw_cd 103) 18 = .ok (.goto 5, 3) := by decide +kernel
theorem tz_103_18 : tw_E sc d 103 18 [x0, x1] st g mi mr Q = tw_E sc d 103 23 [x0, x1] st g mi mr Q := tw_x_goto td_103_18 (by decide)
theorem td_103_21 : decode (tw_cd 103) 21 = .ok (.bipush (-9), 2) := by decide +kernel
theorem tz_103_21 : tw_E sc d 103 21 [x0, x1] st g mi mr Q = tw_E sc d 103 23 [x0, x1] (.int (-9) :: st) g mi mr Q := tw_x_bipush td_103_21 (by decide)
theorem td_103_23 : decode (tw_cd 103) 23 = .ok (.ireturn, 1) := by decide +kernel
theorem tz_103_23 : tw_E sc d 103 23 [x0, x1] ([.int v]) g mi mr Q = Q (some (.int v)) g mi mr := tw_x_iret td_103_23 tr_103
end tz_103
-- 104: Ca_countRuns
section tz_104
variable {sc : Nat × (Nat → Int32)} {d : Nat} {x0 x1 x2 x3 : Option Value} {st : List Value} {g : tw_G} {mi : tw_I} {mr : tw_Q} {Q : Option Value → tw_G → tw_I → tw_Q → Prop} {v w u : Int32} {a b : Nat} {j h : Int64} {s1 s2 s3 s4 : Value}
theorem td_104_0 : decode (tw_cd 104) 0 = .ok (.iconst 0, 1) := by decide +kernel
theorem tz_104_0 : tw_E sc d 104 0 [x0, x1, x2, x3] st g mi mr Q = tw_E sc d 104 1 [x0, x1, x2, x3] (.int 0 :: st) g mi mr Q := tw_x_iconst td_104_0 (by decide)
theorem td_104_1 : decode (tw_cd 104) 1 = .ok (.istore_n 2, 1) := by decide +kernel
theorem tz_104_1 : tw_E sc d 104 1 [x0, x1, x2, x3] (.int v :: st) g mi mr Q = tw_E sc d 104 2 [x0, x1, some (.int v), x3] st g mi mr Q := tw_x_istore_n td_104_1 tp_104 rfl
theorem td_104_2 : decode (tw_cd 104) 2 = .ok (.iconst 0, 1) := by decide +kernel
theorem tz_104_2 : tw_E sc d 104 2 [x0, x1, x2, x3] st g mi mr Q = tw_E sc d 104 3 [x0, x1, x2, x3] (.int 0 :: st) g mi mr Q := tw_x_iconst td_104_2 (by decide)
theorem td_104_3 : decode (tw_cd 104) 3 = .ok (.istore_n 3, 1) := by decide +kernel
theorem tz_104_3 : tw_E sc d 104 3 [x0, x1, x2, x3] (.int v :: st) g mi mr Q = tw_E sc d 104 4 [x0, x1, x2, some (.int v)] st g mi mr Q := tw_x_istore_n td_104_3 tp_104 rfl
theorem td_104_4 : decode (tw_cd 104) 4 = .ok (.iload_n 3, 1) := by decide +kernel
theorem tz_104_4 : tw_E sc d 104 4 [x0, x1, x2, some (.int v)] st g mi mr Q = tw_E sc d 104 5 [x0, x1, x2, some (.int v)] (.int v :: st) g mi mr Q := tw_x_iload_n td_104_4 rfl
theorem td_104_5 : decode (tw_cd 104) 5 = .ok (.aload_n 0, 1) := by decide +kernel
theorem tz_104_5 : tw_E sc d 104 5 [some (.ref a), x1, x2, x3] st g mi mr Q = tw_E sc d 104 6 [some (.ref a), x1, x2, x3] (.ref a :: st) g mi mr Q := tw_x_aload_n td_104_5 rfl
theorem td_104_6 : decode (tw_cd 104) 6 = .ok (.getfield 15, 3) := by decide +kernel
theorem tz_104_6 : tw_E sc d 104 6 [x0, x1, x2, x3] (.ref a :: st) g mi mr Q = (tw_kd g a = 6 ∧ tw_E sc d 104 9 [x0, x1, x2, x3] (.int (mi a 1) :: st) g mi mr Q) := tw_x_geti td_104_6 to_104 tf_6_15 (trf_6_1)
theorem td_104_9 : decode (tw_cd 104) 9 = .ok (.if_icmp .ge 21, 3) := by decide +kernel
theorem tz_104_9 : tw_E sc d 104 9 [x0, x1, x2, x3] (.int w :: .int v :: st) g mi mr Q = if w ≤ v then tw_E sc d 104 30 [x0, x1, x2, x3] st g mi mr Q else tw_E sc d 104 12 [x0, x1, x2, x3] st g mi mr Q := tw_x_ic_ge td_104_9 (by decide)
theorem td_104_12 : decode (tw_cd 104) 12 = .ok (.aload_n 0, 1) := by decide +kernel
theorem tz_104_12 : tw_E sc d 104 12 [some (.ref a), x1, x2, x3] st g mi mr Q = tw_E sc d 104 13 [some (.ref a), x1, x2, x3] (.ref a :: st) g mi mr Q := tw_x_aload_n td_104_12 rfl
theorem td_104_13 : decode (tw_cd 104) 13 = .ok (.iload_n 3, 1) := by decide +kernel
theorem tz_104_13 : tw_E sc d 104 13 [x0, x1, x2, some (.int v)] st g mi mr Q = tw_E sc d 104 14 [x0, x1, x2, some (.int v)] (.int v :: st) g mi mr Q := tw_x_iload_n td_104_13 rfl
theorem td_104_14 : decode (tw_cd 104) 14 = .ok (.iload_n 1, 1) := by decide +kernel
theorem tz_104_14 : tw_E sc d 104 14 [x0, some (.int v), x2, x3] st g mi mr Q = tw_E sc d 104 15 [x0, some (.int v), x2, x3] (.int v :: st) g mi mr Q := tw_x_iload_n td_104_14 rfl
theorem td_104_15 : decode (tw_cd 104) 15 = .ok (.invokevirtual 19, 3) := by decide +kernel
theorem tz_104_15 {a0 : Int32} {a1 : Int32} : tw_E sc (d + 1) 104 15 [x0, x1, x2, x3] ([.int a1, .int a0, .ref a]) g mi mr Q = (tw_kd g a = 6 ∧ tw_E sc d 107 0 [some (.ref a), some (.int a0), some (.int a1)] [] g mi mr (tw_K sc (d + 1) 104 18 [x0, x1, x2, x3] [] Q)) := tw_x_cv (as := [.int a0, .int a1]) (r := []) td_104_15 to_104 tc_6_19 to_107 rfl rfl rfl rfl
theorem td_104_18 : decode (tw_cd 104) 18 = .ok (.ifCond .eq 6, 3) := by decide +kernel
theorem tz_104_18 : tw_E sc d 104 18 [x0, x1, x2, x3] (.int v :: st) g mi mr Q = if v = 0 then tw_E sc d 104 24 [x0, x1, x2, x3] st g mi mr Q else tw_E sc d 104 21 [x0, x1, x2, x3] st g mi mr Q := tw_x_if_eq td_104_18 (by decide)
theorem td_104_21 : decode (tw_cd 104) 21 = .ok (.iinc 2 1, 3) := by decide +kernel
theorem tz_104_21 : tw_E sc d 104 21 [x0, x1, some (.int v), x3] st g mi mr Q = tw_E sc d 104 24 [x0, x1, some (.int (v + 1)), x3] st g mi mr Q := tw_x_iinc td_104_21 rfl (by first | rfl | (exact congrArg (v + ·) (by decide))) tp_104 rfl
theorem td_104_24 : decode (tw_cd 104) 24 = .ok (.iinc 3 1, 3) := by decide +kernel
theorem tz_104_24 : tw_E sc d 104 24 [x0, x1, x2, some (.int v)] st g mi mr Q = tw_E sc d 104 27 [x0, x1, x2, some (.int (v + 1))] st g mi mr Q := tw_x_iinc td_104_24 rfl (by first | rfl | (exact congrArg (v + ·) (by decide))) tp_104 rfl
theorem td_104_27 : decode (tw_cd 104) 27 = .ok (.goto (-23), 3) := by decide +kernel
theorem tz_104_27 : tw_E sc d 104 27 [x0, x1, x2, x3] st g mi mr Q = tw_E sc d 104 4 [x0, x1, x2, x3] st g mi mr Q := tw_x_goto td_104_27 (by decide)
theorem td_104_30 : decode (tw_cd 104) 30 = .ok (.iload_n 2, 1) := by decide +kernel
theorem tz_104_30 : tw_E sc d 104 30 [x0, x1, some (.int v), x3] st g mi mr Q = tw_E sc d 104 31 [x0, x1, some (.int v), x3] (.int v :: st) g mi mr Q := tw_x_iload_n td_104_30 rfl
theorem td_104_31 : decode (tw_cd 104) 31 = .ok (.ireturn, 1) := by decide +kernel
theorem tz_104_31 : tw_E sc d 104 31 [x0, x1, x2, x3] ([.int v]) g mi mr Q = Q (some (.int v)) g mi mr := tw_x_iret td_104_31 tr_104
end tz_104
-- 105: Ca_runStart
section tz_105
variable {sc : Nat × (Nat → Int32)} {d : Nat} {x0 x1 x2 x3 : Option Value} {st : List Value} {g : tw_G} {mi : tw_I} {mr : tw_Q} {Q : Option Value → tw_G → tw_I → tw_Q → Prop} {v w u : Int32} {a b : Nat} {j h : Int64} {s1 s2 s3 s4 : Value}
theorem td_105_0 : decode (tw_cd 105) 0 = .ok (.iload_n 1, 1) := by decide +kernel
theorem tz_105_0 : tw_E sc d 105 0 [x0, some (.int v), x2, x3] st g mi mr Q = tw_E sc d 105 1 [x0, some (.int v), x2, x3] (.int v :: st) g mi mr Q := tw_x_iload_n td_105_0 rfl
theorem td_105_1 : decode (tw_cd 105) 1 = .ok (.istore_n 2, 1) := by decide +kernel
theorem tz_105_1 : tw_E sc d 105 1 [x0, x1, x2, x3] (.int v :: st) g mi mr Q = tw_E sc d 105 2 [x0, x1, some (.int v), x3] st g mi mr Q := tw_x_istore_n td_105_1 tp_105 rfl
theorem td_105_2 : decode (tw_cd 105) 2 = .ok (.iconst 0, 1) := by decide +kernel
theorem tz_105_2 : tw_E sc d 105 2 [x0, x1, x2, x3] st g mi mr Q = tw_E sc d 105 3 [x0, x1, x2, x3] (.int 0 :: st) g mi mr Q := tw_x_iconst td_105_2 (by decide)
theorem td_105_3 : decode (tw_cd 105) 3 = .ok (.istore_n 3, 1) := by decide +kernel
theorem tz_105_3 : tw_E sc d 105 3 [x0, x1, x2, x3] (.int v :: st) g mi mr Q = tw_E sc d 105 4 [x0, x1, x2, some (.int v)] st g mi mr Q := tw_x_istore_n td_105_3 tp_105 rfl
theorem td_105_4 : decode (tw_cd 105) 4 = .ok (.iload_n 3, 1) := by decide +kernel
theorem tz_105_4 : tw_E sc d 105 4 [x0, x1, x2, some (.int v)] st g mi mr Q = tw_E sc d 105 5 [x0, x1, x2, some (.int v)] (.int v :: st) g mi mr Q := tw_x_iload_n td_105_4 rfl
theorem td_105_5 : decode (tw_cd 105) 5 = .ok (.aload_n 0, 1) := by decide +kernel
theorem tz_105_5 : tw_E sc d 105 5 [some (.ref a), x1, x2, x3] st g mi mr Q = tw_E sc d 105 6 [some (.ref a), x1, x2, x3] (.ref a :: st) g mi mr Q := tw_x_aload_n td_105_5 rfl
theorem td_105_6 : decode (tw_cd 105) 6 = .ok (.getfield 15, 3) := by decide +kernel
theorem tz_105_6 : tw_E sc d 105 6 [x0, x1, x2, x3] (.ref a :: st) g mi mr Q = (tw_kd g a = 6 ∧ tw_E sc d 105 9 [x0, x1, x2, x3] (.int (mi a 1) :: st) g mi mr Q) := tw_x_geti td_105_6 to_105 tf_6_15 (trf_6_1)
theorem td_105_9 : decode (tw_cd 105) 9 = .ok (.if_icmp .ge 32, 3) := by decide +kernel
theorem tz_105_9 : tw_E sc d 105 9 [x0, x1, x2, x3] (.int w :: .int v :: st) g mi mr Q = if w ≤ v then tw_E sc d 105 41 [x0, x1, x2, x3] st g mi mr Q else tw_E sc d 105 12 [x0, x1, x2, x3] st g mi mr Q := tw_x_ic_ge td_105_9 (by decide)
theorem td_105_12 : decode (tw_cd 105) 12 = .ok (.iload_n 2, 1) := by decide +kernel
theorem tz_105_12 : tw_E sc d 105 12 [x0, x1, some (.int v), x3] st g mi mr Q = tw_E sc d 105 13 [x0, x1, some (.int v), x3] (.int v :: st) g mi mr Q := tw_x_iload_n td_105_12 rfl
theorem td_105_13 : decode (tw_cd 105) 13 = .ok (.ifCond .lt 28, 3) := by decide +kernel
theorem tz_105_13 : tw_E sc d 105 13 [x0, x1, x2, x3] (.int v :: st) g mi mr Q = if v < 0 then tw_E sc d 105 41 [x0, x1, x2, x3] st g mi mr Q else tw_E sc d 105 16 [x0, x1, x2, x3] st g mi mr Q := tw_x_if_lt td_105_13 (by decide)
theorem td_105_16 : decode (tw_cd 105) 16 = .ok (.aload_n 0, 1) := by decide +kernel
theorem tz_105_16 : tw_E sc d 105 16 [some (.ref a), x1, x2, x3] st g mi mr Q = tw_E sc d 105 17 [some (.ref a), x1, x2, x3] (.ref a :: st) g mi mr Q := tw_x_aload_n td_105_16 rfl
theorem td_105_17 : decode (tw_cd 105) 17 = .ok (.iload_n 3, 1) := by decide +kernel
theorem tz_105_17 : tw_E sc d 105 17 [x0, x1, x2, some (.int v)] st g mi mr Q = tw_E sc d 105 18 [x0, x1, x2, some (.int v)] (.int v :: st) g mi mr Q := tw_x_iload_n td_105_17 rfl
theorem td_105_18 : decode (tw_cd 105) 18 = .ok (.ldc 23, 2) := by decide +kernel
theorem tz_105_18 : tw_E sc d 105 18 [x0, x1, x2, x3] st g mi mr Q = tw_E sc d 105 20 [x0, x1, x2, x3] (.int 65535 :: st) g mi mr Q := tw_x_ldc td_105_18 to_105 tl_6_23
theorem td_105_20 : decode (tw_cd 105) 20 = .ok (.invokevirtual 19, 3) := by decide +kernel
theorem tz_105_20 {a0 : Int32} {a1 : Int32} : tw_E sc (d + 1) 105 20 [x0, x1, x2, x3] ([.int a1, .int a0, .ref a]) g mi mr Q = (tw_kd g a = 6 ∧ tw_E sc d 107 0 [some (.ref a), some (.int a0), some (.int a1)] [] g mi mr (tw_K sc (d + 1) 105 23 [x0, x1, x2, x3] [] Q)) := tw_x_cv (as := [.int a0, .int a1]) (r := []) td_105_20 to_105 tc_6_19 to_107 rfl rfl rfl rfl
theorem td_105_23 : decode (tw_cd 105) 23 = .ok (.ifCond .eq 12, 3) := by decide +kernel
theorem tz_105_23 : tw_E sc d 105 23 [x0, x1, x2, x3] (.int v :: st) g mi mr Q = if v = 0 then tw_E sc d 105 35 [x0, x1, x2, x3] st g mi mr Q else tw_E sc d 105 26 [x0, x1, x2, x3] st g mi mr Q := tw_x_if_eq td_105_23 (by decide)
theorem td_105_26 : decode (tw_cd 105) 26 = .ok (.iload_n 2, 1) := by decide +kernel
theorem tz_105_26 : tw_E sc d 105 26 [x0, x1, some (.int v), x3] st g mi mr Q = tw_E sc d 105 27 [x0, x1, some (.int v), x3] (.int v :: st) g mi mr Q := tw_x_iload_n td_105_26 rfl
theorem td_105_27 : decode (tw_cd 105) 27 = .ok (.ifCond .ne 5, 3) := by decide +kernel
theorem tz_105_27 : tw_E sc d 105 27 [x0, x1, x2, x3] (.int v :: st) g mi mr Q = if ¬ v = 0 then tw_E sc d 105 32 [x0, x1, x2, x3] st g mi mr Q else tw_E sc d 105 30 [x0, x1, x2, x3] st g mi mr Q := tw_x_if_ne td_105_27 (by decide)
theorem td_105_30 : decode (tw_cd 105) 30 = .ok (.iload_n 3, 1) := by decide +kernel
theorem tz_105_30 : tw_E sc d 105 30 [x0, x1, x2, some (.int v)] st g mi mr Q = tw_E sc d 105 31 [x0, x1, x2, some (.int v)] (.int v :: st) g mi mr Q := tw_x_iload_n td_105_30 rfl
theorem td_105_31 : decode (tw_cd 105) 31 = .ok (.ireturn, 1) := by decide +kernel
theorem tz_105_31 : tw_E sc d 105 31 [x0, x1, x2, x3] ([.int v]) g mi mr Q = Q (some (.int v)) g mi mr := tw_x_iret td_105_31 tr_105
theorem td_105_32 : decode (tw_cd 105) 32 = .ok (.iinc 2 (-1), 3) := by decide +kernel
theorem tz_105_32 : tw_E sc d 105 32 [x0, x1, some (.int v), x3] st g mi mr Q = tw_E sc d 105 35 [x0, x1, some (.int (v + (-1))), x3] st g mi mr Q := tw_x_iinc td_105_32 rfl (by first | rfl | (exact congrArg (v + ·) (by decide))) tp_105 rfl
theorem td_105_35 : decode (tw_cd 105) 35 = .ok (.iinc 3 1, 3) := by decide +kernel
theorem tz_105_35 : tw_E sc d 105 35 [x0, x1, x2, some (.int v)] st g mi mr Q = tw_E sc d 105 38 [x0, x1, x2, some (.int (v + 1))] st g mi mr Q := tw_x_iinc td_105_35 rfl (by first | rfl | (exact congrArg (v + ·) (by decide))) tp_105 rfl
theorem td_105_38 : decode (tw_cd 105) 38 = .ok (.goto (-34), 3) := by decide +kernel
theorem tz_105_38 : tw_E sc d 105 38 [x0, x1, x2, x3] st g mi mr Q = tw_E sc d 105 4 [x0, x1, x2, x3] st g mi mr Q := tw_x_goto td_105_38 (by decide)
theorem td_105_41 : decode (tw_cd 105) 41 = .ok (.bipush (-9), 2) := by decide +kernel
theorem tz_105_41 : tw_E sc d 105 41 [x0, x1, x2, x3] st g mi mr Q = tw_E sc d 105 43 [x0, x1, x2, x3] (.int (-9) :: st) g mi mr Q := tw_x_bipush td_105_41 (by decide)
theorem td_105_43 : decode (tw_cd 105) 43 = .ok (.ireturn, 1) := by decide +kernel
theorem tz_105_43 : tw_E sc d 105 43 [x0, x1, x2, x3] ([.int v]) g mi mr Q = Q (some (.int v)) g mi mr := tw_x_iret td_105_43 tr_105
end tz_105
-- 106: Ca_runLength
section tz_106
variable {sc : Nat × (Nat → Int32)} {d : Nat} {x0 x1 x2 : Option Value} {st : List Value} {g : tw_G} {mi : tw_I} {mr : tw_Q} {Q : Option Value → tw_G → tw_I → tw_Q → Prop} {v w u : Int32} {a b : Nat} {j h : Int64} {s1 s2 s3 s4 : Value}
theorem td_106_0 : decode (tw_cd 106) 0 = .ok (.iload_n 1, 1) := by decide +kernel
theorem tz_106_0 : tw_E sc d 106 0 [x0, some (.int v), x2] st g mi mr Q = tw_E sc d 106 1 [x0, some (.int v), x2] (.int v :: st) g mi mr Q := tw_x_iload_n td_106_0 rfl
theorem td_106_1 : decode (tw_cd 106) 1 = .ok (.iconst 1, 1) := by decide +kernel
theorem tz_106_1 : tw_E sc d 106 1 [x0, x1, x2] st g mi mr Q = tw_E sc d 106 2 [x0, x1, x2] (.int 1 :: st) g mi mr Q := tw_x_iconst td_106_1 (by decide)
theorem td_106_2 : decode (tw_cd 106) 2 = .ok (.iadd, 1) := by decide +kernel
theorem tz_106_2 : tw_E sc d 106 2 [x0, x1, x2] (.int w :: .int v :: st) g mi mr Q = tw_E sc d 106 3 [x0, x1, x2] (.int (v + w) :: st) g mi mr Q := tw_x_iadd td_106_2
theorem td_106_3 : decode (tw_cd 106) 3 = .ok (.istore_n 2, 1) := by decide +kernel
theorem tz_106_3 : tw_E sc d 106 3 [x0, x1, x2] (.int v :: st) g mi mr Q = tw_E sc d 106 4 [x0, x1, some (.int v)] st g mi mr Q := tw_x_istore_n td_106_3 tp_106 rfl
theorem td_106_4 : decode (tw_cd 106) 4 = .ok (.iload_n 2, 1) := by decide +kernel
theorem tz_106_4 : tw_E sc d 106 4 [x0, x1, some (.int v)] st g mi mr Q = tw_E sc d 106 5 [x0, x1, some (.int v)] (.int v :: st) g mi mr Q := tw_x_iload_n td_106_4 rfl
theorem td_106_5 : decode (tw_cd 106) 5 = .ok (.aload_n 0, 1) := by decide +kernel
theorem tz_106_5 : tw_E sc d 106 5 [some (.ref a), x1, x2] st g mi mr Q = tw_E sc d 106 6 [some (.ref a), x1, x2] (.ref a :: st) g mi mr Q := tw_x_aload_n td_106_5 rfl
theorem td_106_6 : decode (tw_cd 106) 6 = .ok (.getfield 15, 3) := by decide +kernel
theorem tz_106_6 : tw_E sc d 106 6 [x0, x1, x2] (.ref a :: st) g mi mr Q = (tw_kd g a = 6 ∧ tw_E sc d 106 9 [x0, x1, x2] (.int (mi a 1) :: st) g mi mr Q) := tw_x_geti td_106_6 to_106 tf_6_15 (trf_6_1)
theorem td_106_9 : decode (tw_cd 106) 9 = .ok (.if_icmp .ge 19, 3) := by decide +kernel
theorem tz_106_9 : tw_E sc d 106 9 [x0, x1, x2] (.int w :: .int v :: st) g mi mr Q = if w ≤ v then tw_E sc d 106 28 [x0, x1, x2] st g mi mr Q else tw_E sc d 106 12 [x0, x1, x2] st g mi mr Q := tw_x_ic_ge td_106_9 (by decide)
theorem td_106_12 : decode (tw_cd 106) 12 = .ok (.aload_n 0, 1) := by decide +kernel
theorem tz_106_12 : tw_E sc d 106 12 [some (.ref a), x1, x2] st g mi mr Q = tw_E sc d 106 13 [some (.ref a), x1, x2] (.ref a :: st) g mi mr Q := tw_x_aload_n td_106_12 rfl
theorem td_106_13 : decode (tw_cd 106) 13 = .ok (.iload_n 2, 1) := by decide +kernel
theorem tz_106_13 : tw_E sc d 106 13 [x0, x1, some (.int v)] st g mi mr Q = tw_E sc d 106 14 [x0, x1, some (.int v)] (.int v :: st) g mi mr Q := tw_x_iload_n td_106_13 rfl
theorem td_106_14 : decode (tw_cd 106) 14 = .ok (.ldc 23, 2) := by decide +kernel
theorem tz_106_14 : tw_E sc d 106 14 [x0, x1, x2] st g mi mr Q = tw_E sc d 106 16 [x0, x1, x2] (.int 65535 :: st) g mi mr Q := tw_x_ldc td_106_14 to_106 tl_6_23
theorem td_106_16 : decode (tw_cd 106) 16 = .ok (.invokevirtual 19, 3) := by decide +kernel
theorem tz_106_16 {a0 : Int32} {a1 : Int32} : tw_E sc (d + 1) 106 16 [x0, x1, x2] ([.int a1, .int a0, .ref a]) g mi mr Q = (tw_kd g a = 6 ∧ tw_E sc d 107 0 [some (.ref a), some (.int a0), some (.int a1)] [] g mi mr (tw_K sc (d + 1) 106 19 [x0, x1, x2] [] Q)) := tw_x_cv (as := [.int a0, .int a1]) (r := []) td_106_16 to_106 tc_6_19 to_107 rfl rfl rfl rfl
theorem td_106_19 : decode (tw_cd 106) 19 = .ok (.ifCond .ne 9, 3) := by decide +kernel
theorem tz_106_19 : tw_E sc d 106 19 [x0, x1, x2] (.int v :: st) g mi mr Q = if ¬ v = 0 then tw_E sc d 106 28 [x0, x1, x2] st g mi mr Q else tw_E sc d 106 22 [x0, x1, x2] st g mi mr Q := tw_x_if_ne td_106_19 (by decide)
theorem td_106_22 : decode (tw_cd 106) 22 = .ok (.iinc 2 1, 3) := by decide +kernel
theorem tz_106_22 : tw_E sc d 106 22 [x0, x1, some (.int v)] st g mi mr Q = tw_E sc d 106 25 [x0, x1, some (.int (v + 1))] st g mi mr Q := tw_x_iinc td_106_22 rfl (by first | rfl | (exact congrArg (v + ·) (by decide))) tp_106 rfl
theorem td_106_25 : decode (tw_cd 106) 25 = .ok (.goto (-21), 3) := by decide +kernel
theorem tz_106_25 : tw_E sc d 106 25 [x0, x1, x2] st g mi mr Q = tw_E sc d 106 4 [x0, x1, x2] st g mi mr Q := tw_x_goto td_106_25 (by decide)
theorem td_106_28 : decode (tw_cd 106) 28 = .ok (.iload_n 2, 1) := by decide +kernel
theorem tz_106_28 : tw_E sc d 106 28 [x0, x1, some (.int v)] st g mi mr Q = tw_E sc d 106 29 [x0, x1, some (.int v)] (.int v :: st) g mi mr Q := tw_x_iload_n td_106_28 rfl
theorem td_106_29 : decode (tw_cd 106) 29 = .ok (.iload_n 1, 1) := by decide +kernel
theorem tz_106_29 : tw_E sc d 106 29 [x0, some (.int v), x2] st g mi mr Q = tw_E sc d 106 30 [x0, some (.int v), x2] (.int v :: st) g mi mr Q := tw_x_iload_n td_106_29 rfl
theorem td_106_30 : decode (tw_cd 106) 30 = .ok (.isub, 1) := by decide +kernel
theorem tz_106_30 : tw_E sc d 106 30 [x0, x1, x2] (.int w :: .int v :: st) g mi mr Q = tw_E sc d 106 31 [x0, x1, x2] (.int (v - w) :: st) g mi mr Q := tw_x_isub td_106_30
theorem td_106_31 : decode (tw_cd 106) 31 = .ok (.ireturn, 1) := by decide +kernel
theorem tz_106_31 : tw_E sc d 106 31 [x0, x1, x2] ([.int v]) g mi mr Q = Q (some (.int v)) g mi mr := tw_x_iret td_106_31 tr_106
end tz_106
-- 107: Ca_startsRun
section tz_107
variable {sc : Nat × (Nat → Int32)} {d : Nat} {x0 x1 x2 : Option Value} {st : List Value} {g : tw_G} {mi : tw_I} {mr : tw_Q} {Q : Option Value → tw_G → tw_I → tw_Q → Prop} {v w u : Int32} {a b : Nat} {j h : Int64} {s1 s2 s3 s4 : Value}
theorem td_107_0 : decode (tw_cd 107) 0 = .ok (.iload_n 1, 1) := by decide +kernel
theorem tz_107_0 : tw_E sc d 107 0 [x0, some (.int v), x2] st g mi mr Q = tw_E sc d 107 1 [x0, some (.int v), x2] (.int v :: st) g mi mr Q := tw_x_iload_n td_107_0 rfl
theorem td_107_1 : decode (tw_cd 107) 1 = .ok (.ifCond .eq 21, 3) := by decide +kernel
theorem tz_107_1 : tw_E sc d 107 1 [x0, x1, x2] (.int v :: st) g mi mr Q = if v = 0 then tw_E sc d 107 22 [x0, x1, x2] st g mi mr Q else tw_E sc d 107 4 [x0, x1, x2] st g mi mr Q := tw_x_if_eq td_107_1 (by decide)
theorem td_107_4 : decode (tw_cd 107) 4 = .ok (.aload_n 0, 1) := by decide +kernel
theorem tz_107_4 : tw_E sc d 107 4 [some (.ref a), x1, x2] st g mi mr Q = tw_E sc d 107 5 [some (.ref a), x1, x2] (.ref a :: st) g mi mr Q := tw_x_aload_n td_107_4 rfl
theorem td_107_5 : decode (tw_cd 107) 5 = .ok (.iload_n 1, 1) := by decide +kernel
theorem tz_107_5 : tw_E sc d 107 5 [x0, some (.int v), x2] st g mi mr Q = tw_E sc d 107 6 [x0, some (.int v), x2] (.int v :: st) g mi mr Q := tw_x_iload_n td_107_5 rfl
theorem td_107_6 : decode (tw_cd 107) 6 = .ok (.invokevirtual 24, 3) := by decide +kernel
theorem tz_107_6 {a0 : Int32} : tw_E sc (d + 1) 107 6 [x0, x1, x2] ([.int a0, .ref a]) g mi mr Q = (tw_kd g a = 6 ∧ tw_E sc d 103 0 [some (.ref a), some (.int a0)] [] g mi mr (tw_K sc (d + 1) 107 9 [x0, x1, x2] [] Q)) := tw_x_cv (as := [.int a0]) (r := []) td_107_6 to_107 tc_6_24 to_103 rfl rfl rfl rfl
theorem td_107_9 : decode (tw_cd 107) 9 = .ok (.aload_n 0, 1) := by decide +kernel
theorem tz_107_9 : tw_E sc d 107 9 [some (.ref a), x1, x2] st g mi mr Q = tw_E sc d 107 10 [some (.ref a), x1, x2] (.ref a :: st) g mi mr Q := tw_x_aload_n td_107_9 rfl
theorem td_107_10 : decode (tw_cd 107) 10 = .ok (.iload_n 1, 1) := by decide +kernel
theorem tz_107_10 : tw_E sc d 107 10 [x0, some (.int v), x2] st g mi mr Q = tw_E sc d 107 11 [x0, some (.int v), x2] (.int v :: st) g mi mr Q := tw_x_iload_n td_107_10 rfl
theorem td_107_11 : decode (tw_cd 107) 11 = .ok (.iconst 1, 1) := by decide +kernel
theorem tz_107_11 : tw_E sc d 107 11 [x0, x1, x2] st g mi mr Q = tw_E sc d 107 12 [x0, x1, x2] (.int 1 :: st) g mi mr Q := tw_x_iconst td_107_11 (by decide)
theorem td_107_12 : decode (tw_cd 107) 12 = .ok (.isub, 1) := by decide +kernel
theorem tz_107_12 : tw_E sc d 107 12 [x0, x1, x2] (.int w :: .int v :: st) g mi mr Q = tw_E sc d 107 13 [x0, x1, x2] (.int (v - w) :: st) g mi mr Q := tw_x_isub td_107_12
theorem td_107_13 : decode (tw_cd 107) 13 = .ok (.invokevirtual 24, 3) := by decide +kernel
theorem tz_107_13 {a0 : Int32} : tw_E sc (d + 1) 107 13 [x0, x1, x2] ([.int a0, .ref a, s1]) g mi mr Q = (tw_kd g a = 6 ∧ tw_E sc d 103 0 [some (.ref a), some (.int a0)] [] g mi mr (tw_K sc (d + 1) 107 16 [x0, x1, x2] [s1] Q)) := tw_x_cv (as := [.int a0]) (r := [s1]) td_107_13 to_107 tc_6_24 to_103 rfl rfl rfl rfl
theorem td_107_16 : decode (tw_cd 107) 16 = .ok (.ixor, 1) := by decide +kernel
theorem tz_107_16 : tw_E sc d 107 16 [x0, x1, x2] (.int w :: .int v :: st) g mi mr Q = tw_E sc d 107 17 [x0, x1, x2] (.int (v ^^^ w) :: st) g mi mr Q := tw_x_ixor td_107_16
theorem td_107_17 : decode (tw_cd 107) 17 = .ok (.iload_n 2, 1) := by decide +kernel
theorem tz_107_17 : tw_E sc d 107 17 [x0, x1, some (.int v)] st g mi mr Q = tw_E sc d 107 18 [x0, x1, some (.int v)] (.int v :: st) g mi mr Q := tw_x_iload_n td_107_17 rfl
theorem td_107_18 : decode (tw_cd 107) 18 = .ok (.iand, 1) := by decide +kernel
theorem tz_107_18 : tw_E sc d 107 18 [x0, x1, x2] (.int w :: .int v :: st) g mi mr Q = tw_E sc d 107 19 [x0, x1, x2] (.int (v &&& w) :: st) g mi mr Q := tw_x_iand td_107_18
theorem td_107_19 : decode (tw_cd 107) 19 = .ok (.ifCond .eq 7, 3) := by decide +kernel
theorem tz_107_19 : tw_E sc d 107 19 [x0, x1, x2] (.int v :: st) g mi mr Q = if v = 0 then tw_E sc d 107 26 [x0, x1, x2] st g mi mr Q else tw_E sc d 107 22 [x0, x1, x2] st g mi mr Q := tw_x_if_eq td_107_19 (by decide)
theorem td_107_22 : decode (tw_cd 107) 22 = .ok (.iconst 1, 1) := by decide +kernel
theorem tz_107_22 : tw_E sc d 107 22 [x0, x1, x2] st g mi mr Q = tw_E sc d 107 23 [x0, x1, x2] (.int 1 :: st) g mi mr Q := tw_x_iconst td_107_22 (by decide)
theorem td_107_23 : decode (tw_cd 107) 23 = .ok (.goto 4, 3) := by decide +kernel
theorem tz_107_23 : tw_E sc d 107 23 [x0, x1, x2] st g mi mr Q = tw_E sc d 107 27 [x0, x1, x2] st g mi mr Q := tw_x_goto td_107_23 (by decide)
theorem td_107_26 : decode (tw_cd 107) 26 = .ok (.iconst 0, 1) := by decide +kernel
theorem tz_107_26 : tw_E sc d 107 26 [x0, x1, x2] st g mi mr Q = tw_E sc d 107 27 [x0, x1, x2] (.int 0 :: st) g mi mr Q := tw_x_iconst td_107_26 (by decide)
theorem td_107_27 : decode (tw_cd 107) 27 = .ok (.ireturn, 1) := by decide +kernel
theorem tz_107_27 : tw_E sc d 107 27 [x0, x1, x2] ([.int v]) g mi mr Q = ((v = 0 ∨ v = 1) ∧ Q (some (.int v)) g mi mr) := tw_x_zret td_107_27 tr_107
end tz_107
-- 108: Ma_init
section tz_108
variable {sc : Nat × (Nat → Int32)} {d : Nat} {x0 : Option Value} {st : List Value} {g : tw_G} {mi : tw_I} {mr : tw_Q} {Q : Option Value → tw_G → tw_I → tw_Q → Prop} {v w u : Int32} {a b : Nat} {j h : Int64} {s1 s2 s3 s4 : Value}
theorem td_108_0 : decode (tw_cd 108) 0 = .ok (.aload_n 0, 1) := by decide +kernel
theorem tz_108_0 : tw_E sc d 108 0 [some (.ref a)] st g mi mr Q = tw_E sc d 108 1 [some (.ref a)] (.ref a :: st) g mi mr Q := tw_x_aload_n td_108_0 rfl
theorem td_108_1 : decode (tw_cd 108) 1 = .ok (.invokespecial 3, 3) := by decide +kernel
theorem tz_108_1 : tw_E sc (d + 1) 108 1 [x0] (.ref a :: []) g mi mr Q = tw_E sc (d + 1) 108 4 [x0] [] g mi mr Q := tw_x_obj td_108_1 to_108 toi_7 (by simp)
theorem td_108_4 : decode (tw_cd 108) 4 = .ok (.aload_n 0, 1) := by decide +kernel
theorem tz_108_4 : tw_E sc d 108 4 [some (.ref a)] st g mi mr Q = tw_E sc d 108 5 [some (.ref a)] (.ref a :: st) g mi mr Q := tw_x_aload_n td_108_4 rfl
theorem td_108_5 : decode (tw_cd 108) 5 = .ok (.sipush 400, 3) := by decide +kernel
theorem tz_108_5 : tw_E sc d 108 5 [x0] st g mi mr Q = tw_E sc d 108 8 [x0] (.int 400 :: st) g mi mr Q := tw_x_sipush td_108_5 (by decide)
theorem td_108_8 : decode (tw_cd 108) 8 = .ok (.newarray .int, 2) := by decide +kernel
theorem tz_108_8 : tw_E sc d 108 8 [x0] (.int 400 :: st) g mi mr Q = tw_E sc d 108 10 [x0] (.ref g.1 :: st) (tw_gn g 20 400 400) (tw_st mi g.1 (fun _ => 0)) (tw_st mr g.1 (fun _ => none)) Q := tw_x_newi td_108_8 (by decide)
theorem td_108_10 : decode (tw_cd 108) 10 = .ok (.putfield 9, 3) := by decide +kernel
theorem tz_108_10 : tw_E sc d 108 10 [x0] (.ref b :: .ref a :: st) g mi mr Q = (tw_kd g a = 7 ∧ tw_E sc d 108 13 [x0] st g mi (tw_st mr a (tw_st (mr a) 0 (some b))) Q) := tw_x_putr td_108_10 to_108 tf_7_9 (Or.inr ⟨rfl, rfl⟩) (trf_7_0)
theorem td_108_13 : decode (tw_cd 108) 13 = .ok (.aload_n 0, 1) := by decide +kernel
theorem tz_108_13 : tw_E sc d 108 13 [some (.ref a)] st g mi mr Q = tw_E sc d 108 14 [some (.ref a)] (.ref a :: st) g mi mr Q := tw_x_aload_n td_108_13 rfl
theorem td_108_14 : decode (tw_cd 108) 14 = .ok (.sipush 400, 3) := by decide +kernel
theorem tz_108_14 : tw_E sc d 108 14 [x0] st g mi mr Q = tw_E sc d 108 17 [x0] (.int 400 :: st) g mi mr Q := tw_x_sipush td_108_14 (by decide)
theorem td_108_17 : decode (tw_cd 108) 17 = .ok (.newarray .int, 2) := by decide +kernel
theorem tz_108_17 : tw_E sc d 108 17 [x0] (.int 400 :: st) g mi mr Q = tw_E sc d 108 19 [x0] (.ref g.1 :: st) (tw_gn g 20 400 400) (tw_st mi g.1 (fun _ => 0)) (tw_st mr g.1 (fun _ => none)) Q := tw_x_newi td_108_17 (by decide)
theorem td_108_19 : decode (tw_cd 108) 19 = .ok (.putfield 15, 3) := by decide +kernel
theorem tz_108_19 : tw_E sc d 108 19 [x0] (.ref b :: .ref a :: st) g mi mr Q = (tw_kd g a = 7 ∧ tw_E sc d 108 22 [x0] st g mi (tw_st mr a (tw_st (mr a) 1 (some b))) Q) := tw_x_putr td_108_19 to_108 tf_7_15 (Or.inr ⟨rfl, rfl⟩) (trf_7_1)
theorem td_108_22 : decode (tw_cd 108) 22 = .ok (.aload_n 0, 1) := by decide +kernel
theorem tz_108_22 : tw_E sc d 108 22 [some (.ref a)] st g mi mr Q = tw_E sc d 108 23 [some (.ref a)] (.ref a :: st) g mi mr Q := tw_x_aload_n td_108_22 rfl
theorem td_108_23 : decode (tw_cd 108) 23 = .ok (.sipush 400, 3) := by decide +kernel
theorem tz_108_23 : tw_E sc d 108 23 [x0] st g mi mr Q = tw_E sc d 108 26 [x0] (.int 400 :: st) g mi mr Q := tw_x_sipush td_108_23 (by decide)
theorem td_108_26 : decode (tw_cd 108) 26 = .ok (.newarray .int, 2) := by decide +kernel
theorem tz_108_26 : tw_E sc d 108 26 [x0] (.int 400 :: st) g mi mr Q = tw_E sc d 108 28 [x0] (.ref g.1 :: st) (tw_gn g 20 400 400) (tw_st mi g.1 (fun _ => 0)) (tw_st mr g.1 (fun _ => none)) Q := tw_x_newi td_108_26 (by decide)
theorem td_108_28 : decode (tw_cd 108) 28 = .ok (.putfield 18, 3) := by decide +kernel
theorem tz_108_28 : tw_E sc d 108 28 [x0] (.ref b :: .ref a :: st) g mi mr Q = (tw_kd g a = 7 ∧ tw_E sc d 108 31 [x0] st g mi (tw_st mr a (tw_st (mr a) 2 (some b))) Q) := tw_x_putr td_108_28 to_108 tf_7_18 (Or.inr ⟨rfl, rfl⟩) (trf_7_2)
theorem td_108_31 : decode (tw_cd 108) 31 = .ok (.return_, 1) := by decide +kernel
theorem tz_108_31 : tw_E sc d 108 31 [x0] [] g mi mr Q = Q none g mi mr := tw_x_vret td_108_31 tr_108
end tz_108
-- 109: Ma_clear
section tz_109
variable {sc : Nat × (Nat → Int32)} {d : Nat} {x0 : Option Value} {st : List Value} {g : tw_G} {mi : tw_I} {mr : tw_Q} {Q : Option Value → tw_G → tw_I → tw_Q → Prop} {v w u : Int32} {a b : Nat} {j h : Int64} {s1 s2 s3 s4 : Value}
theorem td_109_0 : decode (tw_cd 109) 0 = .ok (.aload_n 0, 1) := by decide +kernel
theorem tz_109_0 : tw_E sc d 109 0 [some (.ref a)] st g mi mr Q = tw_E sc d 109 1 [some (.ref a)] (.ref a :: st) g mi mr Q := tw_x_aload_n td_109_0 rfl
theorem td_109_1 : decode (tw_cd 109) 1 = .ok (.iconst 0, 1) := by decide +kernel
theorem tz_109_1 : tw_E sc d 109 1 [x0] st g mi mr Q = tw_E sc d 109 2 [x0] (.int 0 :: st) g mi mr Q := tw_x_iconst td_109_1 (by decide)
theorem td_109_2 : decode (tw_cd 109) 2 = .ok (.putfield 21, 3) := by decide +kernel
theorem tz_109_2 : tw_E sc d 109 2 [x0] (.int v :: .ref a :: st) g mi mr Q = (tw_kd g a = 7 ∧ tw_E sc d 109 5 [x0] st g (tw_st mi a (tw_st (mi a) 3 v)) mr Q) := tw_x_puti td_109_2 to_109 tf_7_21 rfl rfl
theorem td_109_5 : decode (tw_cd 109) 5 = .ok (.return_, 1) := by decide +kernel
theorem tz_109_5 : tw_E sc d 109 5 [x0] [] g mi mr Q = Q none g mi mr := tw_x_vret td_109_5 tr_109
end tz_109
-- 110: Ma_size
section tz_110
variable {sc : Nat × (Nat → Int32)} {d : Nat} {x0 : Option Value} {st : List Value} {g : tw_G} {mi : tw_I} {mr : tw_Q} {Q : Option Value → tw_G → tw_I → tw_Q → Prop} {v w u : Int32} {a b : Nat} {j h : Int64} {s1 s2 s3 s4 : Value}
theorem td_110_0 : decode (tw_cd 110) 0 = .ok (.aload_n 0, 1) := by decide +kernel
theorem tz_110_0 : tw_E sc d 110 0 [some (.ref a)] st g mi mr Q = tw_E sc d 110 1 [some (.ref a)] (.ref a :: st) g mi mr Q := tw_x_aload_n td_110_0 rfl
theorem td_110_1 : decode (tw_cd 110) 1 = .ok (.getfield 21, 3) := by decide +kernel
theorem tz_110_1 : tw_E sc d 110 1 [x0] (.ref a :: st) g mi mr Q = (tw_kd g a = 7 ∧ tw_E sc d 110 4 [x0] (.int (mi a 3) :: st) g mi mr Q) := tw_x_geti td_110_1 to_110 tf_7_21 (trf_7_3)
theorem td_110_4 : decode (tw_cd 110) 4 = .ok (.ireturn, 1) := by decide +kernel
theorem tz_110_4 : tw_E sc d 110 4 [x0] ([.int v]) g mi mr Q = Q (some (.int v)) g mi mr := tw_x_iret td_110_4 tr_110
end tz_110
-- 111: Ma_isFull
section tz_111
variable {sc : Nat × (Nat → Int32)} {d : Nat} {x0 : Option Value} {st : List Value} {g : tw_G} {mi : tw_I} {mr : tw_Q} {Q : Option Value → tw_G → tw_I → tw_Q → Prop} {v w u : Int32} {a b : Nat} {j h : Int64} {s1 s2 s3 s4 : Value}
theorem td_111_0 : decode (tw_cd 111) 0 = .ok (.aload_n 0, 1) := by decide +kernel
theorem tz_111_0 : tw_E sc d 111 0 [some (.ref a)] st g mi mr Q = tw_E sc d 111 1 [some (.ref a)] (.ref a :: st) g mi mr Q := tw_x_aload_n td_111_0 rfl
theorem td_111_1 : decode (tw_cd 111) 1 = .ok (.getfield 21, 3) := by decide +kernel
theorem tz_111_1 : tw_E sc d 111 1 [x0] (.ref a :: st) g mi mr Q = (tw_kd g a = 7 ∧ tw_E sc d 111 4 [x0] (.int (mi a 3) :: st) g mi mr Q) := tw_x_geti td_111_1 to_111 tf_7_21 (trf_7_3)
theorem td_111_4 : decode (tw_cd 111) 4 = .ok (.sipush 400, 3) := by decide +kernel
theorem tz_111_4 : tw_E sc d 111 4 [x0] st g mi mr Q = tw_E sc d 111 7 [x0] (.int 400 :: st) g mi mr Q := tw_x_sipush td_111_4 (by decide)
theorem td_111_7 : decode (tw_cd 111) 7 = .ok (.if_icmp .lt 7, 3) := by decide +kernel
theorem tz_111_7 : tw_E sc d 111 7 [x0] (.int w :: .int v :: st) g mi mr Q = if v < w then tw_E sc d 111 14 [x0] st g mi mr Q else tw_E sc d 111 10 [x0] st g mi mr Q := tw_x_ic_lt td_111_7 (by decide)
theorem td_111_10 : decode (tw_cd 111) 10 = .ok (.iconst 1, 1) := by decide +kernel
theorem tz_111_10 : tw_E sc d 111 10 [x0] st g mi mr Q = tw_E sc d 111 11 [x0] (.int 1 :: st) g mi mr Q := tw_x_iconst td_111_10 (by decide)
theorem td_111_11 : decode (tw_cd 111) 11 = .ok (.goto 4, 3) := by decide +kernel
theorem tz_111_11 : tw_E sc d 111 11 [x0] st g mi mr Q = tw_E sc d 111 15 [x0] st g mi mr Q := tw_x_goto td_111_11 (by decide)
theorem td_111_14 : decode (tw_cd 111) 14 = .ok (.iconst 0, 1) := by decide +kernel
theorem tz_111_14 : tw_E sc d 111 14 [x0] st g mi mr Q = tw_E sc d 111 15 [x0] (.int 0 :: st) g mi mr Q := tw_x_iconst td_111_14 (by decide)
theorem td_111_15 : decode (tw_cd 111) 15 = .ok (.ireturn, 1) := by decide +kernel
theorem tz_111_15 : tw_E sc d 111 15 [x0] ([.int v]) g mi mr Q = ((v = 0 ∨ v = 1) ∧ Q (some (.int v)) g mi mr) := tw_x_zret td_111_15 tr_111
end tz_111
-- 112: Ma_addByte
section tz_112
variable {sc : Nat × (Nat → Int32)} {d : Nat} {x0 x1 x2 : Option Value} {st : List Value} {g : tw_G} {mi : tw_I} {mr : tw_Q} {Q : Option Value → tw_G → tw_I → tw_Q → Prop} {v w u : Int32} {a b : Nat} {j h : Int64} {s1 s2 s3 s4 : Value}
theorem td_112_0 : decode (tw_cd 112) 0 = .ok (.aload_n 0, 1) := by decide +kernel
theorem tz_112_0 : tw_E sc d 112 0 [some (.ref a), x1, x2] st g mi mr Q = tw_E sc d 112 1 [some (.ref a), x1, x2] (.ref a :: st) g mi mr Q := tw_x_aload_n td_112_0 rfl
theorem td_112_1 : decode (tw_cd 112) 1 = .ok (.iconst 0, 1) := by decide +kernel
theorem tz_112_1 : tw_E sc d 112 1 [x0, x1, x2] st g mi mr Q = tw_E sc d 112 2 [x0, x1, x2] (.int 0 :: st) g mi mr Q := tw_x_iconst td_112_1 (by decide)
theorem td_112_2 : decode (tw_cd 112) 2 = .ok (.iload_n 1, 1) := by decide +kernel
theorem tz_112_2 : tw_E sc d 112 2 [x0, some (.int v), x2] st g mi mr Q = tw_E sc d 112 3 [x0, some (.int v), x2] (.int v :: st) g mi mr Q := tw_x_iload_n td_112_2 rfl
theorem td_112_3 : decode (tw_cd 112) 3 = .ok (.iload_n 2, 1) := by decide +kernel
theorem tz_112_3 : tw_E sc d 112 3 [x0, x1, some (.int v)] st g mi mr Q = tw_E sc d 112 4 [x0, x1, some (.int v)] (.int v :: st) g mi mr Q := tw_x_iload_n td_112_3 rfl
theorem td_112_4 : decode (tw_cd 112) 4 = .ok (.invokevirtual 25, 3) := by decide +kernel
theorem tz_112_4 {a0 : Int32} {a1 : Int32} {a2 : Int32} : tw_E sc (d + 1) 112 4 [x0, x1, x2] ([.int a2, .int a1, .int a0, .ref a]) g mi mr Q = (tw_kd g a = 7 ∧ tw_E sc d 115 0 [some (.ref a), some (.int a0), some (.int a1), some (.int a2)] [] g mi mr (tw_K sc (d + 1) 112 7 [x0, x1, x2] [] Q)) := tw_x_cv (as := [.int a0, .int a1, .int a2]) (r := []) td_112_4 to_112 tc_7_25 to_115 rfl rfl rfl rfl
theorem td_112_7 : decode (tw_cd 112) 7 = .ok (.return_, 1) := by decide +kernel
theorem tz_112_7 : tw_E sc d 112 7 [x0, x1, x2] [] g mi mr Q = Q none g mi mr := tw_x_vret td_112_7 tr_112
end tz_112
-- 113: Ma_addSign
section tz_113
variable {sc : Nat × (Nat → Int32)} {d : Nat} {x0 x1 x2 : Option Value} {st : List Value} {g : tw_G} {mi : tw_I} {mr : tw_Q} {Q : Option Value → tw_G → tw_I → tw_Q → Prop} {v w u : Int32} {a b : Nat} {j h : Int64} {s1 s2 s3 s4 : Value}
theorem td_113_0 : decode (tw_cd 113) 0 = .ok (.aload_n 0, 1) := by decide +kernel
theorem tz_113_0 : tw_E sc d 113 0 [some (.ref a), x1, x2] st g mi mr Q = tw_E sc d 113 1 [some (.ref a), x1, x2] (.ref a :: st) g mi mr Q := tw_x_aload_n td_113_0 rfl
theorem td_113_1 : decode (tw_cd 113) 1 = .ok (.iload_n 1, 1) := by decide +kernel
theorem tz_113_1 : tw_E sc d 113 1 [x0, some (.int v), x2] st g mi mr Q = tw_E sc d 113 2 [x0, some (.int v), x2] (.int v :: st) g mi mr Q := tw_x_iload_n td_113_1 rfl
theorem td_113_2 : decode (tw_cd 113) 2 = .ok (.bipush (-9), 2) := by decide +kernel
theorem tz_113_2 : tw_E sc d 113 2 [x0, x1, x2] st g mi mr Q = tw_E sc d 113 4 [x0, x1, x2] (.int (-9) :: st) g mi mr Q := tw_x_bipush td_113_2 (by decide)
theorem td_113_4 : decode (tw_cd 113) 4 = .ok (.iload_n 2, 1) := by decide +kernel
theorem tz_113_4 : tw_E sc d 113 4 [x0, x1, some (.int v)] st g mi mr Q = tw_E sc d 113 5 [x0, x1, some (.int v)] (.int v :: st) g mi mr Q := tw_x_iload_n td_113_4 rfl
theorem td_113_5 : decode (tw_cd 113) 5 = .ok (.invokevirtual 25, 3) := by decide +kernel
theorem tz_113_5 {a0 : Int32} {a1 : Int32} {a2 : Int32} : tw_E sc (d + 1) 113 5 [x0, x1, x2] ([.int a2, .int a1, .int a0, .ref a]) g mi mr Q = (tw_kd g a = 7 ∧ tw_E sc d 115 0 [some (.ref a), some (.int a0), some (.int a1), some (.int a2)] [] g mi mr (tw_K sc (d + 1) 113 8 [x0, x1, x2] [] Q)) := tw_x_cv (as := [.int a0, .int a1, .int a2]) (r := []) td_113_5 to_113 tc_7_25 to_115 rfl rfl rfl rfl
theorem td_113_8 : decode (tw_cd 113) 8 = .ok (.return_, 1) := by decide +kernel
theorem tz_113_8 : tw_E sc d 113 8 [x0, x1, x2] [] g mi mr Q = Q none g mi mr := tw_x_vret td_113_8 tr_113
end tz_113
-- 114: Ma_detail
section tz_114
variable {sc : Nat × (Nat → Int32)} {d : Nat} {x0 x1 x2 : Option Value} {st : List Value} {g : tw_G} {mi : tw_I} {mr : tw_Q} {Q : Option Value → tw_G → tw_I → tw_Q → Prop} {v w u : Int32} {a b : Nat} {j h : Int64} {s1 s2 s3 s4 : Value}
theorem td_114_0 : decode (tw_cd 114) 0 = .ok (.iload_n 1, 1) := by decide +kernel
theorem tz_114_0 : tw_E sc d 114 0 [x0, some (.int v), x2] st g mi mr Q = tw_E sc d 114 1 [x0, some (.int v), x2] (.int v :: st) g mi mr Q := tw_x_iload_n td_114_0 rfl
theorem td_114_1 : decode (tw_cd 114) 1 = .ok (.ifCond .lt 11, 3) := by decide +kernel
theorem tz_114_1 : tw_E sc d 114 1 [x0, x1, x2] (.int v :: st) g mi mr Q = if v < 0 then tw_E sc d 114 12 [x0, x1, x2] st g mi mr Q else tw_E sc d 114 4 [x0, x1, x2] st g mi mr Q := tw_x_if_lt td_114_1 (by decide)
theorem td_114_4 : decode (tw_cd 114) 4 = .ok (.iload_n 1, 1) := by decide +kernel
theorem tz_114_4 : tw_E sc d 114 4 [x0, some (.int v), x2] st g mi mr Q = tw_E sc d 114 5 [x0, some (.int v), x2] (.int v :: st) g mi mr Q := tw_x_iload_n td_114_4 rfl
theorem td_114_5 : decode (tw_cd 114) 5 = .ok (.aload_n 0, 1) := by decide +kernel
theorem tz_114_5 : tw_E sc d 114 5 [some (.ref a), x1, x2] st g mi mr Q = tw_E sc d 114 6 [some (.ref a), x1, x2] (.ref a :: st) g mi mr Q := tw_x_aload_n td_114_5 rfl
theorem td_114_6 : decode (tw_cd 114) 6 = .ok (.getfield 21, 3) := by decide +kernel
theorem tz_114_6 : tw_E sc d 114 6 [x0, x1, x2] (.ref a :: st) g mi mr Q = (tw_kd g a = 7 ∧ tw_E sc d 114 9 [x0, x1, x2] (.int (mi a 3) :: st) g mi mr Q) := tw_x_geti td_114_6 to_114 tf_7_21 (trf_7_3)
theorem td_114_9 : decode (tw_cd 114) 9 = .ok (.if_icmp .lt 5, 3) := by decide +kernel
theorem tz_114_9 : tw_E sc d 114 9 [x0, x1, x2] (.int w :: .int v :: st) g mi mr Q = if v < w then tw_E sc d 114 14 [x0, x1, x2] st g mi mr Q else tw_E sc d 114 12 [x0, x1, x2] st g mi mr Q := tw_x_ic_lt td_114_9 (by decide)
theorem td_114_12 : decode (tw_cd 114) 12 = .ok (.iconst (-1), 1) := by decide +kernel
theorem tz_114_12 : tw_E sc d 114 12 [x0, x1, x2] st g mi mr Q = tw_E sc d 114 13 [x0, x1, x2] (.int (-1) :: st) g mi mr Q := tw_x_iconst td_114_12 (by decide)
theorem td_114_13 : decode (tw_cd 114) 13 = .ok (.ireturn, 1) := by decide +kernel
theorem tz_114_13 : tw_E sc d 114 13 [x0, x1, x2] ([.int v]) g mi mr Q = Q (some (.int v)) g mi mr := tw_x_iret td_114_13 tr_114
theorem td_114_14 : decode (tw_cd 114) 14 = .ok (.iload_n 2, 1) := by decide +kernel
theorem tz_114_14 : tw_E sc d 114 14 [x0, x1, some (.int v)] st g mi mr Q = tw_E sc d 114 15 [x0, x1, some (.int v)] (.int v :: st) g mi mr Q := tw_x_iload_n td_114_14 rfl
theorem td_114_15 : decode (tw_cd 114) 15 = .ok (.tableswitch 46 0 2 #[25, 32, 39], 25) := by decide +kernel
theorem tz_114_15 : tw_E sc d 114 15 [x0, x1, x2] (.int v :: st) g mi mr Q = tw_E sc d 114 (tw_sw v 0 [40, 47, 54] 61) [x0, x1, x2] st g mi mr Q := tw_x_ts td_114_15 (by decide) (by decide) (by decide)
theorem td_114_40 : decode (tw_cd 114) 40 = .ok (.aload_n 0, 1) := by decide +kernel
theorem tz_114_40 : tw_E sc d 114 40 [some (.ref a), x1, x2] st g mi mr Q = tw_E sc d 114 41 [some (.ref a), x1, x2] (.ref a :: st) g mi mr Q := tw_x_aload_n td_114_40 rfl
theorem td_114_41 : decode (tw_cd 114) 41 = .ok (.getfield 9, 3) := by decide +kernel
theorem tz_114_41 : tw_E sc d 114 41 [x0, x1, x2] (.ref a :: st) g mi mr Q = (tw_kd g a = 7 ∧ tw_E sc d 114 44 [x0, x1, x2] (va_rf (mr a 0) :: st) g mi mr Q) := tw_x_getr td_114_41 to_114 tf_7_9 (trf_7_0)
theorem td_114_44 : decode (tw_cd 114) 44 = .ok (.iload_n 1, 1) := by decide +kernel
theorem tz_114_44 : tw_E sc d 114 44 [x0, some (.int v), x2] st g mi mr Q = tw_E sc d 114 45 [x0, some (.int v), x2] (.int v :: st) g mi mr Q := tw_x_iload_n td_114_44 rfl
theorem td_114_45 : decode (tw_cd 114) 45 = .ok (.iaload, 1) := by decide +kernel
theorem tz_114_45 : tw_E sc d 114 45 [x0, x1, x2] (.int v :: .ref a :: st) g mi mr Q = ((tw_kd g a = 20 ∧ vp_in v (tw_ln g a)) ∧ tw_E sc d 114 46 [x0, x1, x2] (.int (mi a v.toNatClampNeg) :: st) g mi mr Q) := tw_x_iald td_114_45
theorem td_114_46 : decode (tw_cd 114) 46 = .ok (.ireturn, 1) := by decide +kernel
theorem tz_114_46 : tw_E sc d 114 46 [x0, x1, x2] ([.int v]) g mi mr Q = Q (some (.int v)) g mi mr := tw_x_iret td_114_46 tr_114
theorem td_114_47 : decode (tw_cd 114) 47 = .ok (.aload_n 0, 1) := by decide +kernel
theorem tz_114_47 : tw_E sc d 114 47 [some (.ref a), x1, x2] st g mi mr Q = tw_E sc d 114 48 [some (.ref a), x1, x2] (.ref a :: st) g mi mr Q := tw_x_aload_n td_114_47 rfl
theorem td_114_48 : decode (tw_cd 114) 48 = .ok (.getfield 15, 3) := by decide +kernel
theorem tz_114_48 : tw_E sc d 114 48 [x0, x1, x2] (.ref a :: st) g mi mr Q = (tw_kd g a = 7 ∧ tw_E sc d 114 51 [x0, x1, x2] (va_rf (mr a 1) :: st) g mi mr Q) := tw_x_getr td_114_48 to_114 tf_7_15 (trf_7_1)
theorem td_114_51 : decode (tw_cd 114) 51 = .ok (.iload_n 1, 1) := by decide +kernel
theorem tz_114_51 : tw_E sc d 114 51 [x0, some (.int v), x2] st g mi mr Q = tw_E sc d 114 52 [x0, some (.int v), x2] (.int v :: st) g mi mr Q := tw_x_iload_n td_114_51 rfl
theorem td_114_52 : decode (tw_cd 114) 52 = .ok (.iaload, 1) := by decide +kernel
theorem tz_114_52 : tw_E sc d 114 52 [x0, x1, x2] (.int v :: .ref a :: st) g mi mr Q = ((tw_kd g a = 20 ∧ vp_in v (tw_ln g a)) ∧ tw_E sc d 114 53 [x0, x1, x2] (.int (mi a v.toNatClampNeg) :: st) g mi mr Q) := tw_x_iald td_114_52
theorem td_114_53 : decode (tw_cd 114) 53 = .ok (.ireturn, 1) := by decide +kernel
theorem tz_114_53 : tw_E sc d 114 53 [x0, x1, x2] ([.int v]) g mi mr Q = Q (some (.int v)) g mi mr := tw_x_iret td_114_53 tr_114
theorem td_114_54 : decode (tw_cd 114) 54 = .ok (.aload_n 0, 1) := by decide +kernel
theorem tz_114_54 : tw_E sc d 114 54 [some (.ref a), x1, x2] st g mi mr Q = tw_E sc d 114 55 [some (.ref a), x1, x2] (.ref a :: st) g mi mr Q := tw_x_aload_n td_114_54 rfl
theorem td_114_55 : decode (tw_cd 114) 55 = .ok (.getfield 18, 3) := by decide +kernel
theorem tz_114_55 : tw_E sc d 114 55 [x0, x1, x2] (.ref a :: st) g mi mr Q = (tw_kd g a = 7 ∧ tw_E sc d 114 58 [x0, x1, x2] (va_rf (mr a 2) :: st) g mi mr Q) := tw_x_getr td_114_55 to_114 tf_7_18 (trf_7_2)
theorem td_114_58 : decode (tw_cd 114) 58 = .ok (.iload_n 1, 1) := by decide +kernel
theorem tz_114_58 : tw_E sc d 114 58 [x0, some (.int v), x2] st g mi mr Q = tw_E sc d 114 59 [x0, some (.int v), x2] (.int v :: st) g mi mr Q := tw_x_iload_n td_114_58 rfl
theorem td_114_59 : decode (tw_cd 114) 59 = .ok (.iaload, 1) := by decide +kernel
theorem tz_114_59 : tw_E sc d 114 59 [x0, x1, x2] (.int v :: .ref a :: st) g mi mr Q = ((tw_kd g a = 20 ∧ vp_in v (tw_ln g a)) ∧ tw_E sc d 114 60 [x0, x1, x2] (.int (mi a v.toNatClampNeg) :: st) g mi mr Q) := tw_x_iald td_114_59
theorem td_114_60 : decode (tw_cd 114) 60 = .ok (.ireturn, 1) := by decide +kernel
theorem tz_114_60 : tw_E sc d 114 60 [x0, x1, x2] ([.int v]) g mi mr Q = Q (some (.int v)) g mi mr := tw_x_iret td_114_60 tr_114
theorem td_114_61 : decode (tw_cd 114) 61 = .ok (.bipush (-2), 2) := by decide +kernel
theorem tz_114_61 : tw_E sc d 114 61 [x0, x1, x2] st g mi mr Q = tw_E sc d 114 63 [x0, x1, x2] (.int (-2) :: st) g mi mr Q := tw_x_bipush td_114_61 (by decide)
theorem td_114_63 : decode (tw_cd 114) 63 = .ok (.ireturn, 1) := by decide +kernel
theorem tz_114_63 : tw_E sc d 114 63 [x0, x1, x2] ([.int v]) g mi mr Q = Q (some (.int v)) g mi mr := tw_x_iret td_114_63 tr_114
end tz_114
-- 115: Ma_add
section tz_115
variable {sc : Nat × (Nat → Int32)} {d : Nat} {x0 x1 x2 x3 : Option Value} {st : List Value} {g : tw_G} {mi : tw_I} {mr : tw_Q} {Q : Option Value → tw_G → tw_I → tw_Q → Prop} {v w u : Int32} {a b : Nat} {j h : Int64} {s1 s2 s3 s4 : Value}
theorem td_115_0 : decode (tw_cd 115) 0 = .ok (.aload_n 0, 1) := by decide +kernel
theorem tz_115_0 : tw_E sc d 115 0 [some (.ref a), x1, x2, x3] st g mi mr Q = tw_E sc d 115 1 [some (.ref a), x1, x2, x3] (.ref a :: st) g mi mr Q := tw_x_aload_n td_115_0 rfl
theorem td_115_1 : decode (tw_cd 115) 1 = .ok (.invokevirtual 29, 3) := by decide +kernel
theorem tz_115_1 : tw_E sc (d + 1) 115 1 [x0, x1, x2, x3] ([.ref a]) g mi mr Q = (tw_kd g a = 7 ∧ tw_E sc d 111 0 [some (.ref a)] [] g mi mr (tw_K sc (d + 1) 115 4 [x0, x1, x2, x3] [] Q)) := tw_x_cv (as := []) (r := []) td_115_1 to_115 tc_7_29 to_111 rfl rfl rfl rfl
theorem td_115_4 : decode (tw_cd 115) 4 = .ok (.ifCond .ne 43, 3) := by decide +kernel
theorem tz_115_4 : tw_E sc d 115 4 [x0, x1, x2, x3] (.int v :: st) g mi mr Q = if ¬ v = 0 then tw_E sc d 115 47 [x0, x1, x2, x3] st g mi mr Q else tw_E sc d 115 7 [x0, x1, x2, x3] st g mi mr Q := tw_x_if_ne td_115_4 (by decide)
theorem td_115_7 : decode (tw_cd 115) 7 = .ok (.aload_n 0, 1) := by decide +kernel
theorem tz_115_7 : tw_E sc d 115 7 [some (.ref a), x1, x2, x3] st g mi mr Q = tw_E sc d 115 8 [some (.ref a), x1, x2, x3] (.ref a :: st) g mi mr Q := tw_x_aload_n td_115_7 rfl
theorem td_115_8 : decode (tw_cd 115) 8 = .ok (.getfield 9, 3) := by decide +kernel
theorem tz_115_8 : tw_E sc d 115 8 [x0, x1, x2, x3] (.ref a :: st) g mi mr Q = (tw_kd g a = 7 ∧ tw_E sc d 115 11 [x0, x1, x2, x3] (va_rf (mr a 0) :: st) g mi mr Q) := tw_x_getr td_115_8 to_115 tf_7_9 (trf_7_0)
theorem td_115_11 : decode (tw_cd 115) 11 = .ok (.aload_n 0, 1) := by decide +kernel
theorem tz_115_11 : tw_E sc d 115 11 [some (.ref a), x1, x2, x3] st g mi mr Q = tw_E sc d 115 12 [some (.ref a), x1, x2, x3] (.ref a :: st) g mi mr Q := tw_x_aload_n td_115_11 rfl
theorem td_115_12 : decode (tw_cd 115) 12 = .ok (.getfield 21, 3) := by decide +kernel
theorem tz_115_12 : tw_E sc d 115 12 [x0, x1, x2, x3] (.ref a :: st) g mi mr Q = (tw_kd g a = 7 ∧ tw_E sc d 115 15 [x0, x1, x2, x3] (.int (mi a 3) :: st) g mi mr Q) := tw_x_geti td_115_12 to_115 tf_7_21 (trf_7_3)
theorem td_115_15 : decode (tw_cd 115) 15 = .ok (.iload_n 1, 1) := by decide +kernel
theorem tz_115_15 : tw_E sc d 115 15 [x0, some (.int v), x2, x3] st g mi mr Q = tw_E sc d 115 16 [x0, some (.int v), x2, x3] (.int v :: st) g mi mr Q := tw_x_iload_n td_115_15 rfl
theorem td_115_16 : decode (tw_cd 115) 16 = .ok (.iastore, 1) := by decide +kernel
theorem tz_115_16 : tw_E sc d 115 16 [x0, x1, x2, x3] (.int w :: .int v :: .ref a :: st) g mi mr Q = ((tw_kd g a = 20 ∧ vp_in v (tw_ln g a)) ∧ tw_E sc d 115 17 [x0, x1, x2, x3] st g (tw_st mi a (tw_st (mi a) v.toNatClampNeg w)) mr Q) := tw_x_iast td_115_16
theorem td_115_17 : decode (tw_cd 115) 17 = .ok (.aload_n 0, 1) := by decide +kernel
theorem tz_115_17 : tw_E sc d 115 17 [some (.ref a), x1, x2, x3] st g mi mr Q = tw_E sc d 115 18 [some (.ref a), x1, x2, x3] (.ref a :: st) g mi mr Q := tw_x_aload_n td_115_17 rfl
theorem td_115_18 : decode (tw_cd 115) 18 = .ok (.getfield 15, 3) := by decide +kernel
theorem tz_115_18 : tw_E sc d 115 18 [x0, x1, x2, x3] (.ref a :: st) g mi mr Q = (tw_kd g a = 7 ∧ tw_E sc d 115 21 [x0, x1, x2, x3] (va_rf (mr a 1) :: st) g mi mr Q) := tw_x_getr td_115_18 to_115 tf_7_15 (trf_7_1)
theorem td_115_21 : decode (tw_cd 115) 21 = .ok (.aload_n 0, 1) := by decide +kernel
theorem tz_115_21 : tw_E sc d 115 21 [some (.ref a), x1, x2, x3] st g mi mr Q = tw_E sc d 115 22 [some (.ref a), x1, x2, x3] (.ref a :: st) g mi mr Q := tw_x_aload_n td_115_21 rfl
theorem td_115_22 : decode (tw_cd 115) 22 = .ok (.getfield 21, 3) := by decide +kernel
theorem tz_115_22 : tw_E sc d 115 22 [x0, x1, x2, x3] (.ref a :: st) g mi mr Q = (tw_kd g a = 7 ∧ tw_E sc d 115 25 [x0, x1, x2, x3] (.int (mi a 3) :: st) g mi mr Q) := tw_x_geti td_115_22 to_115 tf_7_21 (trf_7_3)
theorem td_115_25 : decode (tw_cd 115) 25 = .ok (.iload_n 2, 1) := by decide +kernel
theorem tz_115_25 : tw_E sc d 115 25 [x0, x1, some (.int v), x3] st g mi mr Q = tw_E sc d 115 26 [x0, x1, some (.int v), x3] (.int v :: st) g mi mr Q := tw_x_iload_n td_115_25 rfl
theorem td_115_26 : decode (tw_cd 115) 26 = .ok (.iastore, 1) := by decide +kernel
theorem tz_115_26 : tw_E sc d 115 26 [x0, x1, x2, x3] (.int w :: .int v :: .ref a :: st) g mi mr Q = ((tw_kd g a = 20 ∧ vp_in v (tw_ln g a)) ∧ tw_E sc d 115 27 [x0, x1, x2, x3] st g (tw_st mi a (tw_st (mi a) v.toNatClampNeg w)) mr Q) := tw_x_iast td_115_26
theorem td_115_27 : decode (tw_cd 115) 27 = .ok (.aload_n 0, 1) := by decide +kernel
theorem tz_115_27 : tw_E sc d 115 27 [some (.ref a), x1, x2, x3] st g mi mr Q = tw_E sc d 115 28 [some (.ref a), x1, x2, x3] (.ref a :: st) g mi mr Q := tw_x_aload_n td_115_27 rfl
theorem td_115_28 : decode (tw_cd 115) 28 = .ok (.getfield 18, 3) := by decide +kernel
theorem tz_115_28 : tw_E sc d 115 28 [x0, x1, x2, x3] (.ref a :: st) g mi mr Q = (tw_kd g a = 7 ∧ tw_E sc d 115 31 [x0, x1, x2, x3] (va_rf (mr a 2) :: st) g mi mr Q) := tw_x_getr td_115_28 to_115 tf_7_18 (trf_7_2)
theorem td_115_31 : decode (tw_cd 115) 31 = .ok (.aload_n 0, 1) := by decide +kernel
theorem tz_115_31 : tw_E sc d 115 31 [some (.ref a), x1, x2, x3] st g mi mr Q = tw_E sc d 115 32 [some (.ref a), x1, x2, x3] (.ref a :: st) g mi mr Q := tw_x_aload_n td_115_31 rfl
theorem td_115_32 : decode (tw_cd 115) 32 = .ok (.getfield 21, 3) := by decide +kernel
theorem tz_115_32 : tw_E sc d 115 32 [x0, x1, x2, x3] (.ref a :: st) g mi mr Q = (tw_kd g a = 7 ∧ tw_E sc d 115 35 [x0, x1, x2, x3] (.int (mi a 3) :: st) g mi mr Q) := tw_x_geti td_115_32 to_115 tf_7_21 (trf_7_3)
theorem td_115_35 : decode (tw_cd 115) 35 = .ok (.iload_n 3, 1) := by decide +kernel
theorem tz_115_35 : tw_E sc d 115 35 [x0, x1, x2, some (.int v)] st g mi mr Q = tw_E sc d 115 36 [x0, x1, x2, some (.int v)] (.int v :: st) g mi mr Q := tw_x_iload_n td_115_35 rfl
theorem td_115_36 : decode (tw_cd 115) 36 = .ok (.iastore, 1) := by decide +kernel
theorem tz_115_36 : tw_E sc d 115 36 [x0, x1, x2, x3] (.int w :: .int v :: .ref a :: st) g mi mr Q = ((tw_kd g a = 20 ∧ vp_in v (tw_ln g a)) ∧ tw_E sc d 115 37 [x0, x1, x2, x3] st g (tw_st mi a (tw_st (mi a) v.toNatClampNeg w)) mr Q) := tw_x_iast td_115_36
theorem td_115_37 : decode (tw_cd 115) 37 = .ok (.aload_n 0, 1) := by decide +kernel
theorem tz_115_37 : tw_E sc d 115 37 [some (.ref a), x1, x2, x3] st g mi mr Q = tw_E sc d 115 38 [some (.ref a), x1, x2, x3] (.ref a :: st) g mi mr Q := tw_x_aload_n td_115_37 rfl
theorem td_115_38 : decode (tw_cd 115) 38 = .ok (.dup, 1) := by decide +kernel
theorem tz_115_38 : tw_E sc d 115 38 [x0, x1, x2, x3] (.ref a :: st) g mi mr Q = tw_E sc d 115 39 [x0, x1, x2, x3] (.ref a :: .ref a :: st) g mi mr Q := tw_x_dup_ref td_115_38
theorem td_115_39 : decode (tw_cd 115) 39 = .ok (.getfield 21, 3) := by decide +kernel
theorem tz_115_39 : tw_E sc d 115 39 [x0, x1, x2, x3] (.ref a :: st) g mi mr Q = (tw_kd g a = 7 ∧ tw_E sc d 115 42 [x0, x1, x2, x3] (.int (mi a 3) :: st) g mi mr Q) := tw_x_geti td_115_39 to_115 tf_7_21 (trf_7_3)
theorem td_115_42 : decode (tw_cd 115) 42 = .ok (.iconst 1, 1) := by decide +kernel
theorem tz_115_42 : tw_E sc d 115 42 [x0, x1, x2, x3] st g mi mr Q = tw_E sc d 115 43 [x0, x1, x2, x3] (.int 1 :: st) g mi mr Q := tw_x_iconst td_115_42 (by decide)
theorem td_115_43 : decode (tw_cd 115) 43 = .ok (.iadd, 1) := by decide +kernel
theorem tz_115_43 : tw_E sc d 115 43 [x0, x1, x2, x3] (.int w :: .int v :: st) g mi mr Q = tw_E sc d 115 44 [x0, x1, x2, x3] (.int (v + w) :: st) g mi mr Q := tw_x_iadd td_115_43
theorem td_115_44 : decode (tw_cd 115) 44 = .ok (.putfield 21, 3) := by decide +kernel
theorem tz_115_44 : tw_E sc d 115 44 [x0, x1, x2, x3] (.int v :: .ref a :: st) g mi mr Q = (tw_kd g a = 7 ∧ tw_E sc d 115 47 [x0, x1, x2, x3] st g (tw_st mi a (tw_st (mi a) 3 v)) mr Q) := tw_x_puti td_115_44 to_115 tf_7_21 rfl rfl
theorem td_115_47 : decode (tw_cd 115) 47 = .ok (.return_, 1) := by decide +kernel
theorem tz_115_47 : tw_E sc d 115 47 [x0, x1, x2, x3] [] g mi mr Q = Q none g mi mr := tw_x_vret td_115_47 tr_115
end tz_115
-- 116: Fr_init
section tz_116
variable {sc : Nat × (Nat → Int32)} {d : Nat} {x0 x1 x2 : Option Value} {st : List Value} {g : tw_G} {mi : tw_I} {mr : tw_Q} {Q : Option Value → tw_G → tw_I → tw_Q → Prop} {v w u : Int32} {a b : Nat} {j h : Int64} {s1 s2 s3 s4 : Value}
theorem td_116_0 : decode (tw_cd 116) 0 = .ok (.aload_n 0, 1) := by decide +kernel
theorem tz_116_0 : tw_E sc d 116 0 [some (.ref a), x1, x2] st g mi mr Q = tw_E sc d 116 1 [some (.ref a), x1, x2] (.ref a :: st) g mi mr Q := tw_x_aload_n td_116_0 rfl
theorem td_116_1 : decode (tw_cd 116) 1 = .ok (.invokespecial 3, 3) := by decide +kernel
theorem tz_116_1 : tw_E sc (d + 1) 116 1 [x0, x1, x2] (.ref a :: []) g mi mr Q = tw_E sc (d + 1) 116 4 [x0, x1, x2] [] g mi mr Q := tw_x_obj td_116_1 to_116 toi_8 (by simp)
theorem td_116_4 : decode (tw_cd 116) 4 = .ok (.aload_n 0, 1) := by decide +kernel
theorem tz_116_4 : tw_E sc d 116 4 [some (.ref a), x1, x2] st g mi mr Q = tw_E sc d 116 5 [some (.ref a), x1, x2] (.ref a :: st) g mi mr Q := tw_x_aload_n td_116_4 rfl
theorem td_116_5 : decode (tw_cd 116) 5 = .ok (.aload_n 1, 1) := by decide +kernel
theorem tz_116_5 : tw_E sc d 116 5 [x0, some (.ref a), x2] st g mi mr Q = tw_E sc d 116 6 [x0, some (.ref a), x2] (.ref a :: st) g mi mr Q := tw_x_aload_n td_116_5 rfl
theorem tz_116_5n : tw_E sc d 116 5 [x0, some .null, x2] st g mi mr Q = tw_E sc d 116 6 [x0, some .null, x2] (.null :: st) g mi mr Q := tw_x_aload_nN td_116_5 rfl
theorem td_116_6 : decode (tw_cd 116) 6 = .ok (.putfield 9, 3) := by decide +kernel
theorem tz_116_6 : tw_E sc d 116 6 [x0, x1, x2] (.ref b :: .ref a :: st) g mi mr Q = (tw_kd g a = 8 ∧ tw_E sc d 116 9 [x0, x1, x2] st g mi (tw_st mr a (tw_st (mr a) 0 (some b))) Q) := tw_x_putr td_116_6 to_116 tf_8_9 (Or.inr ⟨rfl, rfl⟩) (trf_8_0)
theorem td_116_9 : decode (tw_cd 116) 9 = .ok (.aload_n 0, 1) := by decide +kernel
theorem tz_116_9 : tw_E sc d 116 9 [some (.ref a), x1, x2] st g mi mr Q = tw_E sc d 116 10 [some (.ref a), x1, x2] (.ref a :: st) g mi mr Q := tw_x_aload_n td_116_9 rfl
theorem td_116_10 : decode (tw_cd 116) 10 = .ok (.aload_n 2, 1) := by decide +kernel
theorem tz_116_10 : tw_E sc d 116 10 [x0, x1, some (.ref a)] st g mi mr Q = tw_E sc d 116 11 [x0, x1, some (.ref a)] (.ref a :: st) g mi mr Q := tw_x_aload_n td_116_10 rfl
theorem tz_116_10n : tw_E sc d 116 10 [x0, x1, some .null] st g mi mr Q = tw_E sc d 116 11 [x0, x1, some .null] (.null :: st) g mi mr Q := tw_x_aload_nN td_116_10 rfl
theorem td_116_11 : decode (tw_cd 116) 11 = .ok (.putfield 15, 3) := by decide +kernel
theorem tz_116_11 : tw_E sc d 116 11 [x0, x1, x2] (.ref b :: .ref a :: st) g mi mr Q = (tw_kd g a = 8 ∧ tw_E sc d 116 14 [x0, x1, x2] st g mi (tw_st mr a (tw_st (mr a) 1 (some b))) Q) := tw_x_putr td_116_11 to_116 tf_8_15 (Or.inr ⟨rfl, rfl⟩) (trf_8_1)
theorem td_116_14 : decode (tw_cd 116) 14 = .ok (.return_, 1) := by decide +kernel
theorem tz_116_14 : tw_E sc d 116 14 [x0, x1, x2] [] g mi mr Q = Q none g mi mr := tw_x_vret td_116_14 tr_116
end tz_116
-- 117: Fr_readAll
section tz_117
variable {sc : Nat × (Nat → Int32)} {d : Nat} {x0 x1 x2 x3 x4 x5 : Option Value} {st : List Value} {g : tw_G} {mi : tw_I} {mr : tw_Q} {Q : Option Value → tw_G → tw_I → tw_Q → Prop} {v w u : Int32} {a b : Nat} {j h : Int64} {s1 s2 s3 s4 : Value}
theorem td_117_0 : decode (tw_cd 117) 0 = .ok (.aload_n 0, 1) := by decide +kernel
theorem tz_117_0 : tw_E sc d 117 0 [some (.ref a), x1, x2, x3, x4, x5] st g mi mr Q = tw_E sc d 117 1 [some (.ref a), x1, x2, x3, x4, x5] (.ref a :: st) g mi mr Q := tw_x_aload_n td_117_0 rfl
theorem td_117_1 : decode (tw_cd 117) 1 = .ok (.getfield 15, 3) := by decide +kernel
theorem tz_117_1 : tw_E sc d 117 1 [x0, x1, x2, x3, x4, x5] (.ref a :: st) g mi mr Q = (tw_kd g a = 8 ∧ tw_E sc d 117 4 [x0, x1, x2, x3, x4, x5] (va_rf (mr a 1) :: st) g mi mr Q) := tw_x_getr td_117_1 to_117 tf_8_15 (trf_8_1)
theorem td_117_4 : decode (tw_cd 117) 4 = .ok (.invokevirtual 19, 3) := by decide +kernel
theorem tz_117_4 : tw_E sc (d + 1) 117 4 [x0, x1, x2, x3, x4, x5] ([.ref a]) g mi mr Q = (tw_kd g a = 7 ∧ tw_E sc d 109 0 [some (.ref a)] [] g mi mr (tw_K sc (d + 1) 117 7 [x0, x1, x2, x3, x4, x5] [] Q)) := tw_x_cv (as := []) (r := []) td_117_4 to_117 tc_8_19 to_109 rfl rfl rfl rfl
theorem td_117_7 : decode (tw_cd 117) 7 = .ok (.aload_n 0, 1) := by decide +kernel
theorem tz_117_7 : tw_E sc d 117 7 [some (.ref a), x1, x2, x3, x4, x5] st g mi mr Q = tw_E sc d 117 8 [some (.ref a), x1, x2, x3, x4, x5] (.ref a :: st) g mi mr Q := tw_x_aload_n td_117_7 rfl
theorem td_117_8 : decode (tw_cd 117) 8 = .ok (.iload_n 1, 1) := by decide +kernel
theorem tz_117_8 : tw_E sc d 117 8 [x0, some (.int v), x2, x3, x4, x5] st g mi mr Q = tw_E sc d 117 9 [x0, some (.int v), x2, x3, x4, x5] (.int v :: st) g mi mr Q := tw_x_iload_n td_117_8 rfl
theorem td_117_9 : decode (tw_cd 117) 9 = .ok (.iconst 0, 1) := by decide +kernel
theorem tz_117_9 : tw_E sc d 117 9 [x0, x1, x2, x3, x4, x5] st g mi mr Q = tw_E sc d 117 10 [x0, x1, x2, x3, x4, x5] (.int 0 :: st) g mi mr Q := tw_x_iconst td_117_9 (by decide)
theorem td_117_10 : decode (tw_cd 117) 10 = .ok (.invokevirtual 24, 3) := by decide +kernel
theorem tz_117_10 {a0 : Int32} {a1 : Int32} : tw_E sc (d + 1) 117 10 [x0, x1, x2, x3, x4, x5] ([.int a1, .int a0, .ref a]) g mi mr Q = (tw_kd g a = 8 ∧ tw_E sc d 118 0 [some (.ref a), some (.int a0), some (.int a1), none, none] [] g mi mr (tw_K sc (d + 1) 117 13 [x0, x1, x2, x3, x4, x5] [] Q)) := tw_x_cv (as := [.int a0, .int a1]) (r := []) td_117_10 to_117 tc_8_24 to_118 rfl rfl rfl rfl
theorem td_117_13 : decode (tw_cd 117) 13 = .ok (.istore_n 3, 1) := by decide +kernel
theorem tz_117_13 : tw_E sc d 117 13 [x0, x1, x2, x3, x4, x5] (.int v :: st) g mi mr Q = tw_E sc d 117 14 [x0, x1, x2, some (.int v), x4, x5] st g mi mr Q := tw_x_istore_n td_117_13 tp_117 rfl
theorem td_117_14 : decode (tw_cd 117) 14 = .ok (.iconst 0, 1) := by decide +kernel
theorem tz_117_14 : tw_E sc d 117 14 [x0, x1, x2, x3, x4, x5] st g mi mr Q = tw_E sc d 117 15 [x0, x1, x2, x3, x4, x5] (.int 0 :: st) g mi mr Q := tw_x_iconst td_117_14 (by decide)
theorem td_117_15 : decode (tw_cd 117) 15 = .ok (.istore 4, 2) := by decide +kernel
theorem tz_117_15 : tw_E sc d 117 15 [x0, x1, x2, x3, x4, x5] (.int v :: st) g mi mr Q = tw_E sc d 117 17 [x0, x1, x2, x3, some (.int v), x5] st g mi mr Q := tw_x_istore td_117_15 tp_117 rfl
theorem td_117_17 : decode (tw_cd 117) 17 = .ok (.iload 4, 2) := by decide +kernel
theorem tz_117_17 : tw_E sc d 117 17 [x0, x1, x2, x3, some (.int v), x5] st g mi mr Q = tw_E sc d 117 19 [x0, x1, x2, x3, some (.int v), x5] (.int v :: st) g mi mr Q := tw_x_iload td_117_17 rfl
theorem td_117_19 : decode (tw_cd 117) 19 = .ok (.sipush 4000, 3) := by decide +kernel
theorem tz_117_19 : tw_E sc d 117 19 [x0, x1, x2, x3, x4, x5] st g mi mr Q = tw_E sc d 117 22 [x0, x1, x2, x3, x4, x5] (.int 4000 :: st) g mi mr Q := tw_x_sipush td_117_19 (by decide)
theorem td_117_22 : decode (tw_cd 117) 22 = .ok (.if_icmp .ge 56, 3) := by decide +kernel
theorem tz_117_22 : tw_E sc d 117 22 [x0, x1, x2, x3, x4, x5] (.int w :: .int v :: st) g mi mr Q = if w ≤ v then tw_E sc d 117 78 [x0, x1, x2, x3, x4, x5] st g mi mr Q else tw_E sc d 117 25 [x0, x1, x2, x3, x4, x5] st g mi mr Q := tw_x_ic_ge td_117_22 (by decide)
theorem td_117_25 : decode (tw_cd 117) 25 = .ok (.iload_n 3, 1) := by decide +kernel
theorem tz_117_25 : tw_E sc d 117 25 [x0, x1, x2, some (.int v), x4, x5] st g mi mr Q = tw_E sc d 117 26 [x0, x1, x2, some (.int v), x4, x5] (.int v :: st) g mi mr Q := tw_x_iload_n td_117_25 rfl
theorem td_117_26 : decode (tw_cd 117) 26 = .ok (.bipush (-9), 2) := by decide +kernel
theorem tz_117_26 : tw_E sc d 117 26 [x0, x1, x2, x3, x4, x5] st g mi mr Q = tw_E sc d 117 28 [x0, x1, x2, x3, x4, x5] (.int (-9) :: st) g mi mr Q := tw_x_bipush td_117_26 (by decide)
theorem td_117_28 : decode (tw_cd 117) 28 = .ok (.if_icmp .eq 50, 3) := by decide +kernel
theorem tz_117_28 : tw_E sc d 117 28 [x0, x1, x2, x3, x4, x5] (.int w :: .int v :: st) g mi mr Q = if v = w then tw_E sc d 117 78 [x0, x1, x2, x3, x4, x5] st g mi mr Q else tw_E sc d 117 31 [x0, x1, x2, x3, x4, x5] st g mi mr Q := tw_x_ic_eq td_117_28 (by decide)
theorem td_117_31 : decode (tw_cd 117) 31 = .ok (.aload_n 0, 1) := by decide +kernel
theorem tz_117_31 : tw_E sc d 117 31 [some (.ref a), x1, x2, x3, x4, x5] st g mi mr Q = tw_E sc d 117 32 [some (.ref a), x1, x2, x3, x4, x5] (.ref a :: st) g mi mr Q := tw_x_aload_n td_117_31 rfl
theorem td_117_32 : decode (tw_cd 117) 32 = .ok (.getfield 15, 3) := by decide +kernel
theorem tz_117_32 : tw_E sc d 117 32 [x0, x1, x2, x3, x4, x5] (.ref a :: st) g mi mr Q = (tw_kd g a = 8 ∧ tw_E sc d 117 35 [x0, x1, x2, x3, x4, x5] (va_rf (mr a 1) :: st) g mi mr Q) := tw_x_getr td_117_32 to_117 tf_8_15 (trf_8_1)
theorem td_117_35 : decode (tw_cd 117) 35 = .ok (.invokevirtual 28, 3) := by decide +kernel
theorem tz_117_35 : tw_E sc (d + 1) 117 35 [x0, x1, x2, x3, x4, x5] ([.ref a]) g mi mr Q = (tw_kd g a = 7 ∧ tw_E sc d 111 0 [some (.ref a)] [] g mi mr (tw_K sc (d + 1) 117 38 [x0, x1, x2, x3, x4, x5] [] Q)) := tw_x_cv (as := []) (r := []) td_117_35 to_117 tc_8_28 to_111 rfl rfl rfl rfl
theorem td_117_38 : decode (tw_cd 117) 38 = .ok (.ifCond .ne 40, 3) := by decide +kernel
theorem tz_117_38 : tw_E sc d 117 38 [x0, x1, x2, x3, x4, x5] (.int v :: st) g mi mr Q = if ¬ v = 0 then tw_E sc d 117 78 [x0, x1, x2, x3, x4, x5] st g mi mr Q else tw_E sc d 117 41 [x0, x1, x2, x3, x4, x5] st g mi mr Q := tw_x_if_ne td_117_38 (by decide)
theorem td_117_41 : decode (tw_cd 117) 41 = .ok (.aload_n 0, 1) := by decide +kernel
theorem tz_117_41 : tw_E sc d 117 41 [some (.ref a), x1, x2, x3, x4, x5] st g mi mr Q = tw_E sc d 117 42 [some (.ref a), x1, x2, x3, x4, x5] (.ref a :: st) g mi mr Q := tw_x_aload_n td_117_41 rfl
theorem td_117_42 : decode (tw_cd 117) 42 = .ok (.iload_n 1, 1) := by decide +kernel
theorem tz_117_42 : tw_E sc d 117 42 [x0, some (.int v), x2, x3, x4, x5] st g mi mr Q = tw_E sc d 117 43 [x0, some (.int v), x2, x3, x4, x5] (.int v :: st) g mi mr Q := tw_x_iload_n td_117_42 rfl
theorem td_117_43 : decode (tw_cd 117) 43 = .ok (.iload_n 2, 1) := by decide +kernel
theorem tz_117_43 : tw_E sc d 117 43 [x0, x1, some (.int v), x3, x4, x5] st g mi mr Q = tw_E sc d 117 44 [x0, x1, some (.int v), x3, x4, x5] (.int v :: st) g mi mr Q := tw_x_iload_n td_117_43 rfl
theorem td_117_44 : decode (tw_cd 117) 44 = .ok (.iload_n 3, 1) := by decide +kernel
theorem tz_117_44 : tw_E sc d 117 44 [x0, x1, x2, some (.int v), x4, x5] st g mi mr Q = tw_E sc d 117 45 [x0, x1, x2, some (.int v), x4, x5] (.int v :: st) g mi mr Q := tw_x_iload_n td_117_44 rfl
theorem td_117_45 : decode (tw_cd 117) 45 = .ok (.invokevirtual 32, 3) := by decide +kernel
theorem tz_117_45 {a0 : Int32} {a1 : Int32} {a2 : Int32} : tw_E sc (d + 1) 117 45 [x0, x1, x2, x3, x4, x5] ([.int a2, .int a1, .int a0, .ref a]) g mi mr Q = (tw_kd g a = 8 ∧ tw_E sc d 119 0 [some (.ref a), some (.int a0), some (.int a1), some (.int a2), none, none] [] g mi mr (tw_K sc (d + 1) 117 48 [x0, x1, x2, x3, x4, x5] [] Q)) := tw_x_cv (as := [.int a0, .int a1, .int a2]) (r := []) td_117_45 to_117 tc_8_32 to_119 rfl rfl rfl rfl
theorem td_117_48 : decode (tw_cd 117) 48 = .ok (.istore 5, 2) := by decide +kernel
theorem tz_117_48 : tw_E sc d 117 48 [x0, x1, x2, x3, x4, x5] (.int v :: st) g mi mr Q = tw_E sc d 117 50 [x0, x1, x2, x3, x4, some (.int v)] st g mi mr Q := tw_x_istore td_117_48 tp_117 rfl
theorem td_117_50 : decode (tw_cd 117) 50 = .ok (.iload 5, 2) := by decide +kernel
theorem tz_117_50 : tw_E sc d 117 50 [x0, x1, x2, x3, x4, some (.int v)] st g mi mr Q = tw_E sc d 117 52 [x0, x1, x2, x3, x4, some (.int v)] (.int v :: st) g mi mr Q := tw_x_iload td_117_50 rfl
theorem td_117_52 : decode (tw_cd 117) 52 = .ok (.bipush (-9), 2) := by decide +kernel
theorem tz_117_52 : tw_E sc d 117 52 [x0, x1, x2, x3, x4, x5] st g mi mr Q = tw_E sc d 117 54 [x0, x1, x2, x3, x4, x5] (.int (-9) :: st) g mi mr Q := tw_x_bipush td_117_52 (by decide)
theorem td_117_54 : decode (tw_cd 117) 54 = .ok (.if_icmp .ne 8, 3) := by decide +kernel
theorem tz_117_54 : tw_E sc d 117 54 [x0, x1, x2, x3, x4, x5] (.int w :: .int v :: st) g mi mr Q = if ¬ v = w then tw_E sc d 117 62 [x0, x1, x2, x3, x4, x5] st g mi mr Q else tw_E sc d 117 57 [x0, x1, x2, x3, x4, x5] st g mi mr Q := tw_x_ic_ne td_117_54 (by decide)
theorem td_117_57 : decode (tw_cd 117) 57 = .ok (.bipush (-9), 2) := by decide +kernel
theorem tz_117_57 : tw_E sc d 117 57 [x0, x1, x2, x3, x4, x5] st g mi mr Q = tw_E sc d 117 59 [x0, x1, x2, x3, x4, x5] (.int (-9) :: st) g mi mr Q := tw_x_bipush td_117_57 (by decide)
theorem td_117_59 : decode (tw_cd 117) 59 = .ok (.goto 12, 3) := by decide +kernel
theorem tz_117_59 : tw_E sc d 117 59 [x0, x1, x2, x3, x4, x5] st g mi mr Q = tw_E sc d 117 71 [x0, x1, x2, x3, x4, x5] st g mi mr Q := tw_x_goto td_117_59 (by decide)
theorem td_117_62 : decode (tw_cd 117) 62 = .ok (.aload_n 0, 1) := by decide +kernel
theorem tz_117_62 : tw_E sc d 117 62 [some (.ref a), x1, x2, x3, x4, x5] st g mi mr Q = tw_E sc d 117 63 [some (.ref a), x1, x2, x3, x4, x5] (.ref a :: st) g mi mr Q := tw_x_aload_n td_117_62 rfl
theorem td_117_63 : decode (tw_cd 117) 63 = .ok (.iload_n 1, 1) := by decide +kernel
theorem tz_117_63 : tw_E sc d 117 63 [x0, some (.int v), x2, x3, x4, x5] st g mi mr Q = tw_E sc d 117 64 [x0, some (.int v), x2, x3, x4, x5] (.int v :: st) g mi mr Q := tw_x_iload_n td_117_63 rfl
theorem td_117_64 : decode (tw_cd 117) 64 = .ok (.iload 5, 2) := by decide +kernel
theorem tz_117_64 : tw_E sc d 117 64 [x0, x1, x2, x3, x4, some (.int v)] st g mi mr Q = tw_E sc d 117 66 [x0, x1, x2, x3, x4, some (.int v)] (.int v :: st) g mi mr Q := tw_x_iload td_117_64 rfl
theorem td_117_66 : decode (tw_cd 117) 66 = .ok (.iconst 1, 1) := by decide +kernel
theorem tz_117_66 : tw_E sc d 117 66 [x0, x1, x2, x3, x4, x5] st g mi mr Q = tw_E sc d 117 67 [x0, x1, x2, x3, x4, x5] (.int 1 :: st) g mi mr Q := tw_x_iconst td_117_66 (by decide)
theorem td_117_67 : decode (tw_cd 117) 67 = .ok (.iadd, 1) := by decide +kernel
theorem tz_117_67 : tw_E sc d 117 67 [x0, x1, x2, x3, x4, x5] (.int w :: .int v :: st) g mi mr Q = tw_E sc d 117 68 [x0, x1, x2, x3, x4, x5] (.int (v + w) :: st) g mi mr Q := tw_x_iadd td_117_67
theorem td_117_68 : decode (tw_cd 117) 68 = .ok (.invokevirtual 24, 3) := by decide +kernel
theorem tz_117_68 {a0 : Int32} {a1 : Int32} : tw_E sc (d + 1) 117 68 [x0, x1, x2, x3, x4, x5] ([.int a1, .int a0, .ref a]) g mi mr Q = (tw_kd g a = 8 ∧ tw_E sc d 118 0 [some (.ref a), some (.int a0), some (.int a1), none, none] [] g mi mr (tw_K sc (d + 1) 117 71 [x0, x1, x2, x3, x4, x5] [] Q)) := tw_x_cv (as := [.int a0, .int a1]) (r := []) td_117_68 to_117 tc_8_24 to_118 rfl rfl rfl rfl
theorem td_117_71 : decode (tw_cd 117) 71 = .ok (.istore_n 3, 1) := by decide +kernel
theorem tz_117_71 : tw_E sc d 117 71 [x0, x1, x2, x3, x4, x5] (.int v :: st) g mi mr Q = tw_E sc d 117 72 [x0, x1, x2, some (.int v), x4, x5] st g mi mr Q := tw_x_istore_n td_117_71 tp_117 rfl
theorem td_117_72 : decode (tw_cd 117) 72 = .ok (.iinc 4 1, 3) := by decide +kernel
theorem tz_117_72 : tw_E sc d 117 72 [x0, x1, x2, x3, some (.int v), x5] st g mi mr Q = tw_E sc d 117 75 [x0, x1, x2, x3, some (.int (v + 1)), x5] st g mi mr Q := tw_x_iinc td_117_72 rfl (by first | rfl | (exact congrArg (v + ·) (by decide))) tp_117 rfl
theorem td_117_75 : decode (tw_cd 117) 75 = .ok (.goto (-58), 3) := by decide +kernel
theorem tz_117_75 : tw_E sc d 117 75 [x0, x1, x2, x3, x4, x5] st g mi mr Q = tw_E sc d 117 17 [x0, x1, x2, x3, x4, x5] st g mi mr Q := tw_x_goto td_117_75 (by decide)
theorem td_117_78 : decode (tw_cd 117) 78 = .ok (.return_, 1) := by decide +kernel
theorem tz_117_78 : tw_E sc d 117 78 [x0, x1, x2, x3, x4, x5] [] g mi mr Q = Q none g mi mr := tw_x_vret td_117_78 tr_117
end tz_117
-- 118: Fr_findBeginning
section tz_118
variable {sc : Nat × (Nat → Int32)} {d : Nat} {x0 x1 x2 x3 x4 : Option Value} {st : List Value} {g : tw_G} {mi : tw_I} {mr : tw_Q} {Q : Option Value → tw_G → tw_I → tw_Q → Prop} {v w u : Int32} {a b : Nat} {j h : Int64} {s1 s2 s3 s4 : Value}
theorem td_118_0 : decode (tw_cd 118) 0 = .ok (.iload_n 2, 1) := by decide +kernel
theorem tz_118_0 : tw_E sc d 118 0 [x0, x1, some (.int v), x3, x4] st g mi mr Q = tw_E sc d 118 1 [x0, x1, some (.int v), x3, x4] (.int v :: st) g mi mr Q := tw_x_iload_n td_118_0 rfl
theorem td_118_1 : decode (tw_cd 118) 1 = .ok (.istore_n 3, 1) := by decide +kernel
theorem tz_118_1 : tw_E sc d 118 1 [x0, x1, x2, x3, x4] (.int v :: st) g mi mr Q = tw_E sc d 118 2 [x0, x1, x2, some (.int v), x4] st g mi mr Q := tw_x_istore_n td_118_1 tp_118 rfl
theorem td_118_2 : decode (tw_cd 118) 2 = .ok (.iload_n 3, 1) := by decide +kernel
theorem tz_118_2 : tw_E sc d 118 2 [x0, x1, x2, some (.int v), x4] st g mi mr Q = tw_E sc d 118 3 [x0, x1, x2, some (.int v), x4] (.int v :: st) g mi mr Q := tw_x_iload_n td_118_2 rfl
theorem td_118_3 : decode (tw_cd 118) 3 = .ok (.aload_n 0, 1) := by decide +kernel
theorem tz_118_3 : tw_E sc d 118 3 [some (.ref a), x1, x2, x3, x4] st g mi mr Q = tw_E sc d 118 4 [some (.ref a), x1, x2, x3, x4] (.ref a :: st) g mi mr Q := tw_x_aload_n td_118_3 rfl
theorem td_118_4 : decode (tw_cd 118) 4 = .ok (.getfield 9, 3) := by decide +kernel
theorem tz_118_4 : tw_E sc d 118 4 [x0, x1, x2, x3, x4] (.ref a :: st) g mi mr Q = (tw_kd g a = 8 ∧ tw_E sc d 118 7 [x0, x1, x2, x3, x4] (va_rf (mr a 0) :: st) g mi mr Q) := tw_x_getr td_118_4 to_118 tf_8_9 (trf_8_0)
theorem td_118_7 : decode (tw_cd 118) 7 = .ok (.invokevirtual 36, 3) := by decide +kernel
theorem tz_118_7 : tw_E sc (d + 1) 118 7 [x0, x1, x2, x3, x4] ([.ref a, s1]) g mi mr Q = (tw_kd g a = 5 ∧ tw_E sc d 90 0 [some (.ref a)] [] g mi mr (tw_K sc (d + 1) 118 10 [x0, x1, x2, x3, x4] [s1] Q)) := tw_x_cv (as := []) (r := [s1]) td_118_7 to_118 tc_8_36 to_90 rfl rfl rfl rfl
theorem td_118_10 : decode (tw_cd 118) 10 = .ok (.if_icmp .ge 54, 3) := by decide +kernel
theorem tz_118_10 : tw_E sc d 118 10 [x0, x1, x2, x3, x4] (.int w :: .int v :: st) g mi mr Q = if w ≤ v then tw_E sc d 118 64 [x0, x1, x2, x3, x4] st g mi mr Q else tw_E sc d 118 13 [x0, x1, x2, x3, x4] st g mi mr Q := tw_x_ic_ge td_118_10 (by decide)
theorem td_118_13 : decode (tw_cd 118) 13 = .ok (.iload_n 3, 1) := by decide +kernel
theorem tz_118_13 : tw_E sc d 118 13 [x0, x1, x2, some (.int v), x4] st g mi mr Q = tw_E sc d 118 14 [x0, x1, x2, some (.int v), x4] (.int v :: st) g mi mr Q := tw_x_iload_n td_118_13 rfl
theorem td_118_14 : decode (tw_cd 118) 14 = .ok (.ifCond .eq 18, 3) := by decide +kernel
theorem tz_118_14 : tw_E sc d 118 14 [x0, x1, x2, x3, x4] (.int v :: st) g mi mr Q = if v = 0 then tw_E sc d 118 32 [x0, x1, x2, x3, x4] st g mi mr Q else tw_E sc d 118 17 [x0, x1, x2, x3, x4] st g mi mr Q := tw_x_if_eq td_118_14 (by decide)
theorem td_118_17 : decode (tw_cd 118) 17 = .ok (.aload_n 0, 1) := by decide +kernel
theorem tz_118_17 : tw_E sc d 118 17 [some (.ref a), x1, x2, x3, x4] st g mi mr Q = tw_E sc d 118 18 [some (.ref a), x1, x2, x3, x4] (.ref a :: st) g mi mr Q := tw_x_aload_n td_118_17 rfl
theorem td_118_18 : decode (tw_cd 118) 18 = .ok (.getfield 9, 3) := by decide +kernel
theorem tz_118_18 : tw_E sc d 118 18 [x0, x1, x2, x3, x4] (.ref a :: st) g mi mr Q = (tw_kd g a = 8 ∧ tw_E sc d 118 21 [x0, x1, x2, x3, x4] (va_rf (mr a 0) :: st) g mi mr Q) := tw_x_getr td_118_18 to_118 tf_8_9 (trf_8_0)
theorem td_118_21 : decode (tw_cd 118) 21 = .ok (.iload_n 3, 1) := by decide +kernel
theorem tz_118_21 : tw_E sc d 118 21 [x0, x1, x2, some (.int v), x4] st g mi mr Q = tw_E sc d 118 22 [x0, x1, x2, some (.int v), x4] (.int v :: st) g mi mr Q := tw_x_iload_n td_118_21 rfl
theorem td_118_22 : decode (tw_cd 118) 22 = .ok (.iconst 1, 1) := by decide +kernel
theorem tz_118_22 : tw_E sc d 118 22 [x0, x1, x2, x3, x4] st g mi mr Q = tw_E sc d 118 23 [x0, x1, x2, x3, x4] (.int 1 :: st) g mi mr Q := tw_x_iconst td_118_22 (by decide)
theorem td_118_23 : decode (tw_cd 118) 23 = .ok (.isub, 1) := by decide +kernel
theorem tz_118_23 : tw_E sc d 118 23 [x0, x1, x2, x3, x4] (.int w :: .int v :: st) g mi mr Q = tw_E sc d 118 24 [x0, x1, x2, x3, x4] (.int (v - w) :: st) g mi mr Q := tw_x_isub td_118_23
theorem td_118_24 : decode (tw_cd 118) 24 = .ok (.iload_n 1, 1) := by decide +kernel
theorem tz_118_24 : tw_E sc d 118 24 [x0, some (.int v), x2, x3, x4] st g mi mr Q = tw_E sc d 118 25 [x0, some (.int v), x2, x3, x4] (.int v :: st) g mi mr Q := tw_x_iload_n td_118_24 rfl
theorem td_118_25 : decode (tw_cd 118) 25 = .ok (.invokevirtual 42, 3) := by decide +kernel
theorem tz_118_25 {a0 : Int32} {a1 : Int32} : tw_E sc (d + 1) 118 25 [x0, x1, x2, x3, x4] ([.int a1, .int a0, .ref a]) g mi mr Q = (tw_kd g a = 5 ∧ tw_E sc d 96 0 [some (.ref a), some (.int a0), some (.int a1)] [] g mi mr (tw_K sc (d + 1) 118 28 [x0, x1, x2, x3, x4] [] Q)) := tw_x_cv (as := [.int a0, .int a1]) (r := []) td_118_25 to_118 tc_8_42 to_96 rfl rfl rfl rfl
theorem td_118_28 : decode (tw_cd 118) 28 = .ok (.iconst 1, 1) := by decide +kernel
theorem tz_118_28 : tw_E sc d 118 28 [x0, x1, x2, x3, x4] st g mi mr Q = tw_E sc d 118 29 [x0, x1, x2, x3, x4] (.int 1 :: st) g mi mr Q := tw_x_iconst td_118_28 (by decide)
theorem td_118_29 : decode (tw_cd 118) 29 = .ok (.if_icmp .ne 7, 3) := by decide +kernel
theorem tz_118_29 : tw_E sc d 118 29 [x0, x1, x2, x3, x4] (.int w :: .int v :: st) g mi mr Q = if ¬ v = w then tw_E sc d 118 36 [x0, x1, x2, x3, x4] st g mi mr Q else tw_E sc d 118 32 [x0, x1, x2, x3, x4] st g mi mr Q := tw_x_ic_ne td_118_29 (by decide)
theorem td_118_32 : decode (tw_cd 118) 32 = .ok (.iconst 1, 1) := by decide +kernel
theorem tz_118_32 : tw_E sc d 118 32 [x0, x1, x2, x3, x4] st g mi mr Q = tw_E sc d 118 33 [x0, x1, x2, x3, x4] (.int 1 :: st) g mi mr Q := tw_x_iconst td_118_32 (by decide)
theorem td_118_33 : decode (tw_cd 118) 33 = .ok (.goto 4, 3) := by decide +kernel
theorem tz_118_33 : tw_E sc d 118 33 [x0, x1, x2, x3, x4] st g mi mr Q = tw_E sc d 118 37 [x0, x1, x2, x3, x4] st g mi mr Q := tw_x_goto td_118_33 (by decide)
theorem td_118_36 : decode (tw_cd 118) 36 = .ok (.iconst 0, 1) := by decide +kernel
theorem tz_118_36 : tw_E sc d 118 36 [x0, x1, x2, x3, x4] st g mi mr Q = tw_E sc d 118 37 [x0, x1, x2, x3, x4] (.int 0 :: st) g mi mr Q := tw_x_iconst td_118_36 (by decide)
theorem td_118_37 : decode (tw_cd 118) 37 = .ok (.istore 4, 2) := by decide +kernel
theorem tz_118_37 : tw_E sc d 118 37 [x0, x1, x2, x3, x4] (.int v :: st) g mi mr Q = tw_E sc d 118 39 [x0, x1, x2, x3, some (.int v)] st g mi mr Q := tw_x_istore td_118_37 tp_118 rfl
theorem td_118_39 : decode (tw_cd 118) 39 = .ok (.iload 4, 2) := by decide +kernel
theorem tz_118_39 : tw_E sc d 118 39 [x0, x1, x2, x3, some (.int v)] st g mi mr Q = tw_E sc d 118 41 [x0, x1, x2, x3, some (.int v)] (.int v :: st) g mi mr Q := tw_x_iload td_118_39 rfl
theorem td_118_41 : decode (tw_cd 118) 41 = .ok (.ifCond .eq 17, 3) := by decide +kernel
theorem tz_118_41 : tw_E sc d 118 41 [x0, x1, x2, x3, x4] (.int v :: st) g mi mr Q = if v = 0 then tw_E sc d 118 58 [x0, x1, x2, x3, x4] st g mi mr Q else tw_E sc d 118 44 [x0, x1, x2, x3, x4] st g mi mr Q := tw_x_if_eq td_118_41 (by decide)
theorem td_118_44 : decode (tw_cd 118) 44 = .ok (.aload_n 0, 1) := by decide +kernel
theorem tz_118_44 : tw_E sc d 118 44 [some (.ref a), x1, x2, x3, x4] st g mi mr Q = tw_E sc d 118 45 [some (.ref a), x1, x2, x3, x4] (.ref a :: st) g mi mr Q := tw_x_aload_n td_118_44 rfl
theorem td_118_45 : decode (tw_cd 118) 45 = .ok (.getfield 9, 3) := by decide +kernel
theorem tz_118_45 : tw_E sc d 118 45 [x0, x1, x2, x3, x4] (.ref a :: st) g mi mr Q = (tw_kd g a = 8 ∧ tw_E sc d 118 48 [x0, x1, x2, x3, x4] (va_rf (mr a 0) :: st) g mi mr Q) := tw_x_getr td_118_45 to_118 tf_8_9 (trf_8_0)
theorem td_118_48 : decode (tw_cd 118) 48 = .ok (.iload_n 3, 1) := by decide +kernel
theorem tz_118_48 : tw_E sc d 118 48 [x0, x1, x2, some (.int v), x4] st g mi mr Q = tw_E sc d 118 49 [x0, x1, x2, some (.int v), x4] (.int v :: st) g mi mr Q := tw_x_iload_n td_118_48 rfl
theorem td_118_49 : decode (tw_cd 118) 49 = .ok (.iload_n 1, 1) := by decide +kernel
theorem tz_118_49 : tw_E sc d 118 49 [x0, some (.int v), x2, x3, x4] st g mi mr Q = tw_E sc d 118 50 [x0, some (.int v), x2, x3, x4] (.int v :: st) g mi mr Q := tw_x_iload_n td_118_49 rfl
theorem td_118_50 : decode (tw_cd 118) 50 = .ok (.invokevirtual 42, 3) := by decide +kernel
theorem tz_118_50 {a0 : Int32} {a1 : Int32} : tw_E sc (d + 1) 118 50 [x0, x1, x2, x3, x4] ([.int a1, .int a0, .ref a]) g mi mr Q = (tw_kd g a = 5 ∧ tw_E sc d 96 0 [some (.ref a), some (.int a0), some (.int a1)] [] g mi mr (tw_K sc (d + 1) 118 53 [x0, x1, x2, x3, x4] [] Q)) := tw_x_cv (as := [.int a0, .int a1]) (r := []) td_118_50 to_118 tc_8_42 to_96 rfl rfl rfl rfl
theorem td_118_53 : decode (tw_cd 118) 53 = .ok (.ifCond .ne 5, 3) := by decide +kernel
theorem tz_118_53 : tw_E sc d 118 53 [x0, x1, x2, x3, x4] (.int v :: st) g mi mr Q = if ¬ v = 0 then tw_E sc d 118 58 [x0, x1, x2, x3, x4] st g mi mr Q else tw_E sc d 118 56 [x0, x1, x2, x3, x4] st g mi mr Q := tw_x_if_ne td_118_53 (by decide)
theorem td_118_56 : decode (tw_cd 118) 56 = .ok (.iload_n 3, 1) := by decide +kernel
theorem tz_118_56 : tw_E sc d 118 56 [x0, x1, x2, some (.int v), x4] st g mi mr Q = tw_E sc d 118 57 [x0, x1, x2, some (.int v), x4] (.int v :: st) g mi mr Q := tw_x_iload_n td_118_56 rfl
theorem td_118_57 : decode (tw_cd 118) 57 = .ok (.ireturn, 1) := by decide +kernel
theorem tz_118_57 : tw_E sc d 118 57 [x0, x1, x2, x3, x4] ([.int v]) g mi mr Q = Q (some (.int v)) g mi mr := tw_x_iret td_118_57 tr_118
theorem td_118_58 : decode (tw_cd 118) 58 = .ok (.iinc 3 1, 3) := by decide +kernel
theorem tz_118_58 : tw_E sc d 118 58 [x0, x1, x2, some (.int v), x4] st g mi mr Q = tw_E sc d 118 61 [x0, x1, x2, some (.int (v + 1)), x4] st g mi mr Q := tw_x_iinc td_118_58 rfl (by first | rfl | (exact congrArg (v + ·) (by decide))) tp_118 rfl
theorem td_118_61 : decode (tw_cd 118) 61 = .ok (.goto (-59), 3) := by decide +kernel
theorem tz_118_61 : tw_E sc d 118 61 [x0, x1, x2, x3, x4] st g mi mr Q = tw_E sc d 118 2 [x0, x1, x2, x3, x4] st g mi mr Q := tw_x_goto td_118_61 (by decide)
theorem td_118_64 : decode (tw_cd 118) 64 = .ok (.bipush (-9), 2) := by decide +kernel
theorem tz_118_64 : tw_E sc d 118 64 [x0, x1, x2, x3, x4] st g mi mr Q = tw_E sc d 118 66 [x0, x1, x2, x3, x4] (.int (-9) :: st) g mi mr Q := tw_x_bipush td_118_64 (by decide)
theorem td_118_66 : decode (tw_cd 118) 66 = .ok (.ireturn, 1) := by decide +kernel
theorem tz_118_66 : tw_E sc d 118 66 [x0, x1, x2, x3, x4] ([.int v]) g mi mr Q = Q (some (.int v)) g mi mr := tw_x_iret td_118_66 tr_118
end tz_118
