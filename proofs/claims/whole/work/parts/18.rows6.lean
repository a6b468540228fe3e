/-! a row for each instruction: printed by wip/whole/gen3.py -/
-- 140: Mo_parse
section tz_140
variable {sc : Nat × (Nat → Int32)} {d : Nat} {x0 x1 x2 x3 : Option Value} {st : List Value} {g : tw_G} {mi : tw_I} {mr : tw_Q} {Q : Option Value → tw_G → tw_I → tw_Q → Prop} {v w u : Int32} {a b : Nat} {j h : Int64} {s1 s2 s3 s4 : Value}
theorem td_140_0 : decode (tw_cd 140) 0 = .ok (.aload_n 0, 1) := by decide +kernel
theorem tz_140_0 : tw_E sc d 140 0 [some (.ref a), x1, x2, x3] st g mi mr Q = tw_E sc d 140 1 [some (.ref a), x1, x2, x3] (.ref a :: st) g mi mr Q := tw_x_aload_n td_140_0 rfl
theorem td_140_1 : decode (tw_cd 140) 1 = .ok (.iconst 0, 1) := by decide +kernel
theorem tz_140_1 : tw_E sc d 140 1 [x0, x1, x2, x3] st g mi mr Q = tw_E sc d 140 2 [x0, x1, x2, x3] (.int 0 :: st) g mi mr Q := tw_x_iconst td_140_1 (by decide)
theorem td_140_2 : decode (tw_cd 140) 2 = .ok (.putfield 100, 3) := by decide +kernel
theorem tz_140_2 : tw_E sc d 140 2 [x0, x1, x2, x3] (.int v :: .ref a :: st) g mi mr Q = (tw_kd g a = 10 ∧ tw_E sc d 140 5 [x0, x1, x2, x3] st g (tw_st mi a (tw_st (mi a) 29 v)) mr Q) := tw_x_puti td_140_2 to_140 tf_10_100 rfl rfl
theorem td_140_5 : decode (tw_cd 140) 5 = .ok (.aload_n 0, 1) := by decide +kernel
theorem tz_140_5 : tw_E sc d 140 5 [some (.ref a), x1, x2, x3] st g mi mr Q = tw_E sc d 140 6 [some (.ref a), x1, x2, x3] (.ref a :: st) g mi mr Q := tw_x_aload_n td_140_5 rfl
theorem td_140_6 : decode (tw_cd 140) 6 = .ok (.iconst 0, 1) := by decide +kernel
theorem tz_140_6 : tw_E sc d 140 6 [x0, x1, x2, x3] st g mi mr Q = tw_E sc d 140 7 [x0, x1, x2, x3] (.int 0 :: st) g mi mr Q := tw_x_iconst td_140_6 (by decide)
theorem td_140_7 : decode (tw_cd 140) 7 = .ok (.putfield 123, 3) := by decide +kernel
theorem tz_140_7 : tw_E sc d 140 7 [x0, x1, x2, x3] (.int v :: .ref a :: st) g mi mr Q = (tw_kd g a = 10 ∧ tw_E sc d 140 10 [x0, x1, x2, x3] st g (tw_st mi a (tw_st (mi a) 11 v)) mr Q) := tw_x_puti td_140_7 to_140 tf_10_123 rfl rfl
theorem td_140_10 : decode (tw_cd 140) 10 = .ok (.aload_n 0, 1) := by decide +kernel
theorem tz_140_10 : tw_E sc d 140 10 [some (.ref a), x1, x2, x3] st g mi mr Q = tw_E sc d 140 11 [some (.ref a), x1, x2, x3] (.ref a :: st) g mi mr Q := tw_x_aload_n td_140_10 rfl
theorem td_140_11 : decode (tw_cd 140) 11 = .ok (.iconst 0, 1) := by decide +kernel
theorem tz_140_11 : tw_E sc d 140 11 [x0, x1, x2, x3] st g mi mr Q = tw_E sc d 140 12 [x0, x1, x2, x3] (.int 0 :: st) g mi mr Q := tw_x_iconst td_140_11 (by decide)
theorem td_140_12 : decode (tw_cd 140) 12 = .ok (.putfield 126, 3) := by decide +kernel
theorem tz_140_12 : tw_E sc d 140 12 [x0, x1, x2, x3] (.int v :: .ref a :: st) g mi mr Q = (tw_kd g a = 10 ∧ tw_E sc d 140 15 [x0, x1, x2, x3] st g (tw_st mi a (tw_st (mi a) 33 v)) mr Q) := tw_x_puti td_140_12 to_140 tf_10_126 rfl rfl
theorem td_140_15 : decode (tw_cd 140) 15 = .ok (.aload_n 0, 1) := by decide +kernel
theorem tz_140_15 : tw_E sc d 140 15 [some (.ref a), x1, x2, x3] st g mi mr Q = tw_E sc d 140 16 [some (.ref a), x1, x2, x3] (.ref a :: st) g mi mr Q := tw_x_aload_n td_140_15 rfl
theorem td_140_16 : decode (tw_cd 140) 16 = .ok (.iconst 0, 1) := by decide +kernel
theorem tz_140_16 : tw_E sc d 140 16 [x0, x1, x2, x3] st g mi mr Q = tw_E sc d 140 17 [x0, x1, x2, x3] (.int 0 :: st) g mi mr Q := tw_x_iconst td_140_16 (by decide)
theorem td_140_17 : decode (tw_cd 140) 17 = .ok (.putfield 129, 3) := by decide +kernel
theorem tz_140_17 : tw_E sc d 140 17 [x0, x1, x2, x3] (.int v :: .ref a :: st) g mi mr Q = (tw_kd g a = 10 ∧ tw_E sc d 140 20 [x0, x1, x2, x3] st g (tw_st mi a (tw_st (mi a) 38 v)) mr Q) := tw_x_puti td_140_17 to_140 tf_10_129 rfl rfl
theorem td_140_20 : decode (tw_cd 140) 20 = .ok (.aload_n 0, 1) := by decide +kernel
theorem tz_140_20 : tw_E sc d 140 20 [some (.ref a), x1, x2, x3] st g mi mr Q = tw_E sc d 140 21 [some (.ref a), x1, x2, x3] (.ref a :: st) g mi mr Q := tw_x_aload_n td_140_20 rfl
theorem td_140_21 : decode (tw_cd 140) 21 = .ok (.bipush (-9), 2) := by decide +kernel
theorem tz_140_21 : tw_E sc d 140 21 [x0, x1, x2, x3] st g mi mr Q = tw_E sc d 140 23 [x0, x1, x2, x3] (.int (-9) :: st) g mi mr Q := tw_x_bipush td_140_21 (by decide)
theorem td_140_23 : decode (tw_cd 140) 23 = .ok (.putfield 132, 3) := by decide +kernel
theorem tz_140_23 : tw_E sc d 140 23 [x0, x1, x2, x3] (.int v :: .ref a :: st) g mi mr Q = (tw_kd g a = 10 ∧ tw_E sc d 140 26 [x0, x1, x2, x3] st g (tw_st mi a (tw_st (mi a) 39 v)) mr Q) := tw_x_puti td_140_23 to_140 tf_10_132 rfl rfl
theorem td_140_26 : decode (tw_cd 140) 26 = .ok (.aload_n 0, 1) := by decide +kernel
theorem tz_140_26 : tw_E sc d 140 26 [some (.ref a), x1, x2, x3] st g mi mr Q = tw_E sc d 140 27 [some (.ref a), x1, x2, x3] (.ref a :: st) g mi mr Q := tw_x_aload_n td_140_26 rfl
theorem td_140_27 : decode (tw_cd 140) 27 = .ok (.bipush (-9), 2) := by decide +kernel
theorem tz_140_27 : tw_E sc d 140 27 [x0, x1, x2, x3] st g mi mr Q = tw_E sc d 140 29 [x0, x1, x2, x3] (.int (-9) :: st) g mi mr Q := tw_x_bipush td_140_27 (by decide)
theorem td_140_29 : decode (tw_cd 140) 29 = .ok (.putfield 155, 3) := by decide +kernel
theorem tz_140_29 : tw_E sc d 140 29 [x0, x1, x2, x3] (.int v :: .ref a :: st) g mi mr Q = (tw_kd g a = 10 ∧ tw_E sc d 140 32 [x0, x1, x2, x3] st g (tw_st mi a (tw_st (mi a) 40 v)) mr Q) := tw_x_puti td_140_29 to_140 tf_10_155 rfl rfl
theorem td_140_32 : decode (tw_cd 140) 32 = .ok (.aload_n 0, 1) := by decide +kernel
theorem tz_140_32 : tw_E sc d 140 32 [some (.ref a), x1, x2, x3] st g mi mr Q = tw_E sc d 140 33 [some (.ref a), x1, x2, x3] (.ref a :: st) g mi mr Q := tw_x_aload_n td_140_32 rfl
theorem td_140_33 : decode (tw_cd 140) 33 = .ok (.invokevirtual 141, 3) := by decide +kernel
theorem tz_140_33 : tw_E sc (d + 1) 140 33 [x0, x1, x2, x3] ([.ref a]) g mi mr Q = (tw_kd g a = 10 ∧ tw_E sc d 131 0 [some (.ref a)] [] g mi mr (tw_K sc (d + 1) 140 36 [x0, x1, x2, x3] [] Q)) := tw_x_cv (as := []) (r := []) td_140_33 to_140 tc_10_141 to_131 rfl rfl rfl rfl
theorem td_140_36 : decode (tw_cd 140) 36 = .ok (.iconst 1, 1) := by decide +kernel
theorem tz_140_36 : tw_E sc d 140 36 [x0, x1, x2, x3] st g mi mr Q = tw_E sc d 140 37 [x0, x1, x2, x3] (.int 1 :: st) g mi mr Q := tw_x_iconst td_140_36 (by decide)
theorem td_140_37 : decode (tw_cd 140) 37 = .ok (.istore_n 1, 1) := by decide +kernel
theorem tz_140_37 : tw_E sc d 140 37 [x0, x1, x2, x3] (.int v :: st) g mi mr Q = tw_E sc d 140 38 [x0, some (.int v), x2, x3] st g mi mr Q := tw_x_istore_n td_140_37 tp_140 rfl
theorem td_140_38 : decode (tw_cd 140) 38 = .ok (.iload_n 1, 1) := by decide +kernel
theorem tz_140_38 : tw_E sc d 140 38 [x0, some (.int v), x2, x3] st g mi mr Q = tw_E sc d 140 39 [x0, some (.int v), x2, x3] (.int v :: st) g mi mr Q := tw_x_iload_n td_140_38 rfl
theorem td_140_39 : decode (tw_cd 140) 39 = .ok (.ifCond .eq 298, 3) := by decide +kernel
theorem tz_140_39 : tw_E sc d 140 39 [x0, x1, x2, x3] (.int v :: st) g mi mr Q = if v = 0 then tw_E sc d 140 337 [x0, x1, x2, x3] st g mi mr Q else tw_E sc d 140 42 [x0, x1, x2, x3] st g mi mr Q := tw_x_if_eq td_140_39 (by decide)
theorem td_140_42 : decode (tw_cd 140) 42 = .ok (.aload_n 0, 1) := by decide +kernel
theorem tz_140_42 : tw_E sc d 140 42 [some (.ref a), x1, x2, x3] st g mi mr Q = tw_E sc d 140 43 [some (.ref a), x1, x2, x3] (.ref a :: st) g mi mr Q := tw_x_aload_n td_140_42 rfl
theorem td_140_43 : decode (tw_cd 140) 43 = .ok (.getfield 132, 3) := by decide +kernel
theorem tz_140_43 : tw_E sc d 140 43 [x0, x1, x2, x3] (.ref a :: st) g mi mr Q = (tw_kd g a = 10 ∧ tw_E sc d 140 46 [x0, x1, x2, x3] (.int (mi a 39) :: st) g mi mr Q) := tw_x_geti td_140_43 to_140 tf_10_132 (trf_10_39)
theorem td_140_46 : decode (tw_cd 140) 46 = .ok (.bipush (-9), 2) := by decide +kernel
theorem tz_140_46 : tw_E sc d 140 46 [x0, x1, x2, x3] st g mi mr Q = tw_E sc d 140 48 [x0, x1, x2, x3] (.int (-9) :: st) g mi mr Q := tw_x_bipush td_140_46 (by decide)
theorem td_140_48 : decode (tw_cd 140) 48 = .ok (.if_icmp .ne 289, 3) := by decide +kernel
theorem tz_140_48 : tw_E sc d 140 48 [x0, x1, x2, x3] (.int w :: .int v :: st) g mi mr Q = if ¬ v = w then tw_E sc d 140 337 [x0, x1, x2, x3] st g mi mr Q else tw_E sc d 140 51 [x0, x1, x2, x3] st g mi mr Q := tw_x_ic_ne td_140_48 (by decide)
theorem td_140_51 : decode (tw_cd 140) 51 = .ok (.aload_n 0, 1) := by decide +kernel
theorem tz_140_51 : tw_E sc d 140 51 [some (.ref a), x1, x2, x3] st g mi mr Q = tw_E sc d 140 52 [some (.ref a), x1, x2, x3] (.ref a :: st) g mi mr Q := tw_x_aload_n td_140_51 rfl
theorem td_140_52 : decode (tw_cd 140) 52 = .ok (.invokevirtual 158, 3) := by decide +kernel
theorem tz_140_52 : tw_E sc (d + 1) 140 52 [x0, x1, x2, x3] ([.ref a]) g mi mr Q = (tw_kd g a = 10 ∧ tw_E sc d 137 0 [some (.ref a), none, none] [] g mi mr (tw_K sc (d + 1) 140 55 [x0, x1, x2, x3] [] Q)) := tw_x_cv (as := []) (r := []) td_140_52 to_140 tc_10_158 to_137 rfl rfl rfl rfl
theorem td_140_55 : decode (tw_cd 140) 55 = .ok (.istore_n 2, 1) := by decide +kernel
theorem tz_140_55 : tw_E sc d 140 55 [x0, x1, x2, x3] (.int v :: st) g mi mr Q = tw_E sc d 140 56 [x0, x1, some (.int v), x3] st g mi mr Q := tw_x_istore_n td_140_55 tp_140 rfl
theorem td_140_56 : decode (tw_cd 140) 56 = .ok (.aload_n 0, 1) := by decide +kernel
theorem tz_140_56 : tw_E sc d 140 56 [some (.ref a), x1, x2, x3] st g mi mr Q = tw_E sc d 140 57 [some (.ref a), x1, x2, x3] (.ref a :: st) g mi mr Q := tw_x_aload_n td_140_56 rfl
theorem td_140_57 : decode (tw_cd 140) 57 = .ok (.getfield 132, 3) := by decide +kernel
theorem tz_140_57 : tw_E sc d 140 57 [x0, x1, x2, x3] (.ref a :: st) g mi mr Q = (tw_kd g a = 10 ∧ tw_E sc d 140 60 [x0, x1, x2, x3] (.int (mi a 39) :: st) g mi mr Q) := tw_x_geti td_140_57 to_140 tf_10_132 (trf_10_39)
theorem td_140_60 : decode (tw_cd 140) 60 = .ok (.bipush (-9), 2) := by decide +kernel
theorem tz_140_60 : tw_E sc d 140 60 [x0, x1, x2, x3] st g mi mr Q = tw_E sc d 140 62 [x0, x1, x2, x3] (.int (-9) :: st) g mi mr Q := tw_x_bipush td_140_60 (by decide)
theorem td_140_62 : decode (tw_cd 140) 62 = .ok (.if_icmp .ne 7, 3) := by decide +kernel
theorem tz_140_62 : tw_E sc d 140 62 [x0, x1, x2, x3] (.int w :: .int v :: st) g mi mr Q = if ¬ v = w then tw_E sc d 140 69 [x0, x1, x2, x3] st g mi mr Q else tw_E sc d 140 65 [x0, x1, x2, x3] st g mi mr Q := tw_x_ic_ne td_140_62 (by decide)
theorem td_140_65 : decode (tw_cd 140) 65 = .ok (.iconst 1, 1) := by decide +kernel
theorem tz_140_65 : tw_E sc d 140 65 [x0, x1, x2, x3] st g mi mr Q = tw_E sc d 140 66 [x0, x1, x2, x3] (.int 1 :: st) g mi mr Q := tw_x_iconst td_140_65 (by decide)
theorem td_140_66 : decode (tw_cd 140) 66 = .ok (.goto 4, 3) := by decide +kernel
theorem tz_140_66 : tw_E sc d 140 66 [x0, x1, x2, x3] st g mi mr Q = tw_E sc d 140 70 [x0, x1, x2, x3] st g mi mr Q := tw_x_goto td_140_66 (by decide)
theorem td_140_69 : decode (tw_cd 140) 69 = .ok (.iconst 0, 1) := by decide +kernel
theorem tz_140_69 : tw_E sc d 140 69 [x0, x1, x2, x3] st g mi mr Q = tw_E sc d 140 70 [x0, x1, x2, x3] (.int 0 :: st) g mi mr Q := tw_x_iconst td_140_69 (by decide)
theorem td_140_70 : decode (tw_cd 140) 70 = .ok (.istore_n 3, 1) := by decide +kernel
theorem tz_140_70 : tw_E sc d 140 70 [x0, x1, x2, x3] (.int v :: st) g mi mr Q = tw_E sc d 140 71 [x0, x1, x2, some (.int v)] st g mi mr Q := tw_x_istore_n td_140_70 tp_140 rfl
theorem td_140_71 : decode (tw_cd 140) 71 = .ok (.iload_n 3, 1) := by decide +kernel
theorem tz_140_71 : tw_E sc d 140 71 [x0, x1, x2, some (.int v)] st g mi mr Q = tw_E sc d 140 72 [x0, x1, x2, some (.int v)] (.int v :: st) g mi mr Q := tw_x_iload_n td_140_71 rfl
theorem td_140_72 : decode (tw_cd 140) 72 = .ok (.ifCond .eq 262, 3) := by decide +kernel
theorem tz_140_72 : tw_E sc d 140 72 [x0, x1, x2, x3] (.int v :: st) g mi mr Q = if v = 0 then tw_E sc d 140 334 [x0, x1, x2, x3] st g mi mr Q else tw_E sc d 140 75 [x0, x1, x2, x3] st g mi mr Q := tw_x_if_eq td_140_72 (by decide)
theorem td_140_75 : decode (tw_cd 140) 75 = .ok (.aload_n 0, 1) := by decide +kernel
theorem tz_140_75 : tw_E sc d 140 75 [some (.ref a), x1, x2, x3] st g mi mr Q = tw_E sc d 140 76 [some (.ref a), x1, x2, x3] (.ref a :: st) g mi mr Q := tw_x_aload_n td_140_75 rfl
theorem td_140_76 : decode (tw_cd 140) 76 = .ok (.iload_n 2, 1) := by decide +kernel
theorem tz_140_76 : tw_E sc d 140 76 [x0, x1, some (.int v), x3] st g mi mr Q = tw_E sc d 140 77 [x0, x1, some (.int v), x3] (.int v :: st) g mi mr Q := tw_x_iload_n td_140_76 rfl
theorem td_140_77 : decode (tw_cd 140) 77 = .ok (.invokevirtual 162, 3) := by decide +kernel
theorem tz_140_77 {a0 : Int32} : tw_E sc (d + 1) 140 77 [x0, x1, x2, x3] ([.int a0, .ref a]) g mi mr Q = (tw_kd g a = 10 ∧ tw_E sc d 138 0 [some (.ref a), some (.int a0), none] [] g mi mr (tw_K sc (d + 1) 140 80 [x0, x1, x2, x3] [] Q)) := tw_x_cv (as := [.int a0]) (r := []) td_140_77 to_140 tc_10_162 to_138 rfl rfl rfl rfl
theorem td_140_80 : decode (tw_cd 140) 80 = .ok (.istore_n 2, 1) := by decide +kernel
theorem tz_140_80 : tw_E sc d 140 80 [x0, x1, x2, x3] (.int v :: st) g mi mr Q = tw_E sc d 140 81 [x0, x1, some (.int v), x3] st g mi mr Q := tw_x_istore_n td_140_80 tp_140 rfl
theorem td_140_81 : decode (tw_cd 140) 81 = .ok (.iconst 0, 1) := by decide +kernel
theorem tz_140_81 : tw_E sc d 140 81 [x0, x1, x2, x3] st g mi mr Q = tw_E sc d 140 82 [x0, x1, x2, x3] (.int 0 :: st) g mi mr Q := tw_x_iconst td_140_81 (by decide)
theorem td_140_82 : decode (tw_cd 140) 82 = .ok (.istore_n 3, 1) := by decide +kernel
theorem tz_140_82 : tw_E sc d 140 82 [x0, x1, x2, x3] (.int v :: st) g mi mr Q = tw_E sc d 140 83 [x0, x1, x2, some (.int v)] st g mi mr Q := tw_x_istore_n td_140_82 tp_140 rfl
theorem td_140_83 : decode (tw_cd 140) 83 = .ok (.aload_n 0, 1) := by decide +kernel
theorem tz_140_83 : tw_E sc d 140 83 [some (.ref a), x1, x2, x3] st g mi mr Q = tw_E sc d 140 84 [some (.ref a), x1, x2, x3] (.ref a :: st) g mi mr Q := tw_x_aload_n td_140_83 rfl
theorem td_140_84 : decode (tw_cd 140) 84 = .ok (.bipush 38, 2) := by decide +kernel
theorem tz_140_84 : tw_E sc d 140 84 [x0, x1, x2, x3] st g mi mr Q = tw_E sc d 140 86 [x0, x1, x2, x3] (.int 38 :: st) g mi mr Q := tw_x_bipush td_140_84 (by decide)
theorem td_140_86 : decode (tw_cd 140) 86 = .ok (.invokevirtual 135, 3) := by decide +kernel
theorem tz_140_86 {a0 : Int32} : tw_E sc (d + 1) 140 86 [x0, x1, x2, x3] ([.int a0, .ref a]) g mi mr Q = (tw_kd g a = 10 ∧ tw_E sc d 132 0 [some (.ref a), some (.int a0)] [] g mi mr (tw_K sc (d + 1) 140 89 [x0, x1, x2, x3] [] Q)) := tw_x_cv (as := [.int a0]) (r := []) td_140_86 to_140 tc_10_135 to_132 rfl rfl rfl rfl
theorem td_140_89 : decode (tw_cd 140) 89 = .ok (.ifCond .eq 20, 3) := by decide +kernel
theorem tz_140_89 : tw_E sc d 140 89 [x0, x1, x2, x3] (.int v :: st) g mi mr Q = if v = 0 then tw_E sc d 140 109 [x0, x1, x2, x3] st g mi mr Q else tw_E sc d 140 92 [x0, x1, x2, x3] st g mi mr Q := tw_x_if_eq td_140_89 (by decide)
theorem td_140_92 : decode (tw_cd 140) 92 = .ok (.aload_n 0, 1) := by decide +kernel
theorem tz_140_92 : tw_E sc d 140 92 [some (.ref a), x1, x2, x3] st g mi mr Q = tw_E sc d 140 93 [some (.ref a), x1, x2, x3] (.ref a :: st) g mi mr Q := tw_x_aload_n td_140_92 rfl
theorem td_140_93 : decode (tw_cd 140) 93 = .ok (.iconst 3, 1) := by decide +kernel
theorem tz_140_93 : tw_E sc d 140 93 [x0, x1, x2, x3] st g mi mr Q = tw_E sc d 140 94 [x0, x1, x2, x3] (.int 3 :: st) g mi mr Q := tw_x_iconst td_140_93 (by decide)
theorem td_140_94 : decode (tw_cd 140) 94 = .ok (.iload_n 2, 1) := by decide +kernel
theorem tz_140_94 : tw_E sc d 140 94 [x0, x1, some (.int v), x3] st g mi mr Q = tw_E sc d 140 95 [x0, x1, some (.int v), x3] (.int v :: st) g mi mr Q := tw_x_iload_n td_140_94 rfl
theorem td_140_95 : decode (tw_cd 140) 95 = .ok (.bipush (-9), 2) := by decide +kernel
theorem tz_140_95 : tw_E sc d 140 95 [x0, x1, x2, x3] st g mi mr Q = tw_E sc d 140 97 [x0, x1, x2, x3] (.int (-9) :: st) g mi mr Q := tw_x_bipush td_140_95 (by decide)
theorem td_140_97 : decode (tw_cd 140) 97 = .ok (.bipush (-9), 2) := by decide +kernel
theorem tz_140_97 : tw_E sc d 140 97 [x0, x1, x2, x3] st g mi mr Q = tw_E sc d 140 99 [x0, x1, x2, x3] (.int (-9) :: st) g mi mr Q := tw_x_bipush td_140_97 (by decide)
theorem td_140_99 : decode (tw_cd 140) 99 = .ok (.invokevirtual 144, 3) := by decide +kernel
theorem tz_140_99 {a0 : Int32} {a1 : Int32} {a2 : Int32} {a3 : Int32} : tw_E sc (d + 1) 140 99 [x0, x1, x2, x3] ([.int a3, .int a2, .int a1, .int a0, .ref a]) g mi mr Q = (tw_kd g a = 10 ∧ tw_E sc d 134 0 [some (.ref a), some (.int a0), some (.int a1), some (.int a2), some (.int a3)] [] g mi mr (tw_K sc (d + 1) 140 102 [x0, x1, x2, x3] [] Q)) := tw_x_cv (as := [.int a0, .int a1, .int a2, .int a3]) (r := []) td_140_99 to_140 tc_10_144 to_134 rfl rfl rfl rfl
theorem td_140_102 : decode (tw_cd 140) 102 = .ok (.aload_n 0, 1) := by decide +kernel
theorem tz_140_102 : tw_E sc d 140 102 [some (.ref a), x1, x2, x3] st g mi mr Q = tw_E sc d 140 103 [some (.ref a), x1, x2, x3] (.ref a :: st) g mi mr Q := tw_x_aload_n td_140_102 rfl
theorem td_140_103 : decode (tw_cd 140) 103 = .ok (.invokevirtual 141, 3) := by decide +kernel
theorem tz_140_103 : tw_E sc (d + 1) 140 103 [x0, x1, x2, x3] ([.ref a]) g mi mr Q = (tw_kd g a = 10 ∧ tw_E sc d 131 0 [some (.ref a)] [] g mi mr (tw_K sc (d + 1) 140 106 [x0, x1, x2, x3] [] Q)) := tw_x_cv (as := []) (r := []) td_140_103 to_140 tc_10_141 to_131 rfl rfl rfl rfl
theorem td_140_106 : decode (tw_cd 140) 106 = .ok (.goto (-35), 3) := by decide +kernel
theorem tz_140_106 : tw_E sc d 140 106 [x0, x1, x2, x3] st g mi mr Q = tw_E sc d 140 71 [x0, x1, x2, x3] st g mi mr Q := tw_x_goto td_140_106 (by decide)
theorem td_140_109 : decode (tw_cd 140) 109 = .ok (.aload_n 0, 1) := by decide +kernel
theorem tz_140_109 : tw_E sc d 140 109 [some (.ref a), x1, x2, x3] st g mi mr Q = tw_E sc d 140 110 [some (.ref a), x1, x2, x3] (.ref a :: st) g mi mr Q := tw_x_aload_n td_140_109 rfl
theorem td_140_110 : decode (tw_cd 140) 110 = .ok (.iconst 4, 1) := by decide +kernel
theorem tz_140_110 : tw_E sc d 140 110 [x0, x1, x2, x3] st g mi mr Q = tw_E sc d 140 111 [x0, x1, x2, x3] (.int 4 :: st) g mi mr Q := tw_x_iconst td_140_110 (by decide)
theorem td_140_111 : decode (tw_cd 140) 111 = .ok (.invokevirtual 152, 3) := by decide +kernel
theorem tz_140_111 {a0 : Int32} : tw_E sc (d + 1) 140 111 [x0, x1, x2, x3] ([.int a0, .ref a]) g mi mr Q = (tw_kd g a = 10 ∧ tw_E sc d 135 0 [some (.ref a), some (.int a0)] [] g mi mr (tw_K sc (d + 1) 140 114 [x0, x1, x2, x3] [] Q)) := tw_x_cv (as := [.int a0]) (r := []) td_140_111 to_140 tc_10_152 to_135 rfl rfl rfl rfl
theorem td_140_114 : decode (tw_cd 140) 114 = .ok (.ifCond .eq 33, 3) := by decide +kernel
theorem tz_140_114 : tw_E sc d 140 114 [x0, x1, x2, x3] (.int v :: st) g mi mr Q = if v = 0 then tw_E sc d 140 147 [x0, x1, x2, x3] st g mi mr Q else tw_E sc d 140 117 [x0, x1, x2, x3] st g mi mr Q := tw_x_if_eq td_140_114 (by decide)
theorem td_140_117 : decode (tw_cd 140) 117 = .ok (.aload_n 0, 1) := by decide +kernel
theorem tz_140_117 : tw_E sc d 140 117 [some (.ref a), x1, x2, x3] st g mi mr Q = tw_E sc d 140 118 [some (.ref a), x1, x2, x3] (.ref a :: st) g mi mr Q := tw_x_aload_n td_140_117 rfl
theorem td_140_118 : decode (tw_cd 140) 118 = .ok (.dup, 1) := by decide +kernel
theorem tz_140_118 : tw_E sc d 140 118 [x0, x1, x2, x3] (.ref a :: st) g mi mr Q = tw_E sc d 140 119 [x0, x1, x2, x3] (.ref a :: .ref a :: st) g mi mr Q := tw_x_dup_ref td_140_118
theorem td_140_119 : decode (tw_cd 140) 119 = .ok (.getfield 126, 3) := by decide +kernel
theorem tz_140_119 : tw_E sc d 140 119 [x0, x1, x2, x3] (.ref a :: st) g mi mr Q = (tw_kd g a = 10 ∧ tw_E sc d 140 122 [x0, x1, x2, x3] (.int (mi a 33) :: st) g mi mr Q) := tw_x_geti td_140_119 to_140 tf_10_126 (trf_10_33)
theorem td_140_122 : decode (tw_cd 140) 122 = .ok (.iconst 1, 1) := by decide +kernel
theorem tz_140_122 : tw_E sc d 140 122 [x0, x1, x2, x3] st g mi mr Q = tw_E sc d 140 123 [x0, x1, x2, x3] (.int 1 :: st) g mi mr Q := tw_x_iconst td_140_122 (by decide)
theorem td_140_123 : decode (tw_cd 140) 123 = .ok (.isub, 1) := by decide +kernel
theorem tz_140_123 : tw_E sc d 140 123 [x0, x1, x2, x3] (.int w :: .int v :: st) g mi mr Q = tw_E sc d 140 124 [x0, x1, x2, x3] (.int (v - w) :: st) g mi mr Q := tw_x_isub td_140_123
theorem td_140_124 : decode (tw_cd 140) 124 = .ok (.putfield 126, 3) := by decide +kernel
theorem tz_140_124 : tw_E sc d 140 124 [x0, x1, x2, x3] (.int v :: .ref a :: st) g mi mr Q = (tw_kd g a = 10 ∧ tw_E sc d 140 127 [x0, x1, x2, x3] st g (tw_st mi a (tw_st (mi a) 33 v)) mr Q) := tw_x_puti td_140_124 to_140 tf_10_126 rfl rfl
theorem td_140_127 : decode (tw_cd 140) 127 = .ok (.aload_n 0, 1) := by decide +kernel
theorem tz_140_127 : tw_E sc d 140 127 [some (.ref a), x1, x2, x3] st g mi mr Q = tw_E sc d 140 128 [some (.ref a), x1, x2, x3] (.ref a :: st) g mi mr Q := tw_x_aload_n td_140_127 rfl
theorem td_140_128 : decode (tw_cd 140) 128 = .ok (.iconst 4, 1) := by decide +kernel
theorem tz_140_128 : tw_E sc d 140 128 [x0, x1, x2, x3] st g mi mr Q = tw_E sc d 140 129 [x0, x1, x2, x3] (.int 4 :: st) g mi mr Q := tw_x_iconst td_140_128 (by decide)
theorem td_140_129 : decode (tw_cd 140) 129 = .ok (.aload_n 0, 1) := by decide +kernel
theorem tz_140_129 : tw_E sc d 140 129 [some (.ref a), x1, x2, x3] st g mi mr Q = tw_E sc d 140 130 [some (.ref a), x1, x2, x3] (.ref a :: st) g mi mr Q := tw_x_aload_n td_140_129 rfl
theorem td_140_130 : decode (tw_cd 140) 130 = .ok (.getfield 74, 3) := by decide +kernel
theorem tz_140_130 : tw_E sc d 140 130 [x0, x1, x2, x3] (.ref a :: st) g mi mr Q = (tw_kd g a = 10 ∧ tw_E sc d 140 133 [x0, x1, x2, x3] (va_rf (mr a 35) :: st) g mi mr Q) := tw_x_getr td_140_130 to_140 tf_10_74 (trf_10_35)
theorem td_140_133 : decode (tw_cd 140) 133 = .ok (.aload_n 0, 1) := by decide +kernel
theorem tz_140_133 : tw_E sc d 140 133 [some (.ref a), x1, x2, x3] st g mi mr Q = tw_E sc d 140 134 [some (.ref a), x1, x2, x3] (.ref a :: st) g mi mr Q := tw_x_aload_n td_140_133 rfl
theorem td_140_134 : decode (tw_cd 140) 134 = .ok (.getfield 126, 3) := by decide +kernel
theorem tz_140_134 : tw_E sc d 140 134 [x0, x1, x2, x3] (.ref a :: st) g mi mr Q = (tw_kd g a = 10 ∧ tw_E sc d 140 137 [x0, x1, x2, x3] (.int (mi a 33) :: st) g mi mr Q) := tw_x_geti td_140_134 to_140 tf_10_126 (trf_10_33)
theorem td_140_137 : decode (tw_cd 140) 137 = .ok (.iaload, 1) := by decide +kernel
theorem tz_140_137 : tw_E sc d 140 137 [x0, x1, x2, x3] (.int v :: .ref a :: st) g mi mr Q = ((tw_kd g a = 20 ∧ vp_in v (tw_ln g a)) ∧ tw_E sc d 140 138 [x0, x1, x2, x3] (.int (mi a v.toNatClampNeg) :: st) g mi mr Q) := tw_x_iald td_140_137
theorem td_140_138 : decode (tw_cd 140) 138 = .ok (.iload_n 2, 1) := by decide +kernel
theorem tz_140_138 : tw_E sc d 140 138 [x0, x1, some (.int v), x3] st g mi mr Q = tw_E sc d 140 139 [x0, x1, some (.int v), x3] (.int v :: st) g mi mr Q := tw_x_iload_n td_140_138 rfl
theorem td_140_139 : decode (tw_cd 140) 139 = .ok (.bipush (-9), 2) := by decide +kernel
theorem tz_140_139 : tw_E sc d 140 139 [x0, x1, x2, x3] st g mi mr Q = tw_E sc d 140 141 [x0, x1, x2, x3] (.int (-9) :: st) g mi mr Q := tw_x_bipush td_140_139 (by decide)
theorem td_140_141 : decode (tw_cd 140) 141 = .ok (.bipush (-9), 2) := by decide +kernel
theorem tz_140_141 : tw_E sc d 140 141 [x0, x1, x2, x3] st g mi mr Q = tw_E sc d 140 143 [x0, x1, x2, x3] (.int (-9) :: st) g mi mr Q := tw_x_bipush td_140_141 (by decide)
theorem td_140_143 : decode (tw_cd 140) 143 = .ok (.invokevirtual 148, 3) := by decide +kernel
theorem tz_140_143 {a0 : Int32} {a1 : Int32} {a2 : Int32} {a3 : Int32} {a4 : Int32} : tw_E sc (d + 1) 140 143 [x0, x1, x2, x3] ([.int a4, .int a3, .int a2, .int a1, .int a0, .ref a]) g mi mr Q = (tw_kd g a = 10 ∧ tw_E sc d 133 0 [some (.ref a), some (.int a0), some (.int a1), some (.int a2), some (.int a3), some (.int a4)] [] g mi mr (tw_K sc (d + 1) 140 146 [x0, x1, x2, x3] [] Q)) := tw_x_cv (as := [.int a0, .int a1, .int a2, .int a3, .int a4]) (r := []) td_140_143 to_140 tc_10_148 to_133 rfl rfl rfl rfl
theorem td_140_146 : decode (tw_cd 140) 146 = .ok (.istore_n 2, 1) := by decide +kernel
theorem tz_140_146 : tw_E sc d 140 146 [x0, x1, x2, x3] (.int v :: st) g mi mr Q = tw_E sc d 140 147 [x0, x1, some (.int v), x3] st g mi mr Q := tw_x_istore_n td_140_146 tp_140 rfl
theorem td_140_147 : decode (tw_cd 140) 147 = .ok (.aload_n 0, 1) := by decide +kernel
theorem tz_140_147 : tw_E sc d 140 147 [some (.ref a), x1, x2, x3] st g mi mr Q = tw_E sc d 140 148 [some (.ref a), x1, x2, x3] (.ref a :: st) g mi mr Q := tw_x_aload_n td_140_147 rfl
theorem td_140_148 : decode (tw_cd 140) 148 = .ok (.bipush 47, 2) := by decide +kernel
theorem tz_140_148 : tw_E sc d 140 148 [x0, x1, x2, x3] st g mi mr Q = tw_E sc d 140 150 [x0, x1, x2, x3] (.int 47 :: st) g mi mr Q := tw_x_bipush td_140_148 (by decide)
theorem td_140_150 : decode (tw_cd 140) 150 = .ok (.invokevirtual 135, 3) := by decide +kernel
theorem tz_140_150 {a0 : Int32} : tw_E sc (d + 1) 140 150 [x0, x1, x2, x3] ([.int a0, .ref a]) g mi mr Q = (tw_kd g a = 10 ∧ tw_E sc d 132 0 [some (.ref a), some (.int a0)] [] g mi mr (tw_K sc (d + 1) 140 153 [x0, x1, x2, x3] [] Q)) := tw_x_cv (as := [.int a0]) (r := []) td_140_150 to_140 tc_10_135 to_132 rfl rfl rfl rfl
theorem td_140_153 : decode (tw_cd 140) 153 = .ok (.ifCond .eq 20, 3) := by decide +kernel
theorem tz_140_153 : tw_E sc d 140 153 [x0, x1, x2, x3] (.int v :: st) g mi mr Q = if v = 0 then tw_E sc d 140 173 [x0, x1, x2, x3] st g mi mr Q else tw_E sc d 140 156 [x0, x1, x2, x3] st g mi mr Q := tw_x_if_eq td_140_153 (by decide)
theorem td_140_156 : decode (tw_cd 140) 156 = .ok (.aload_n 0, 1) := by decide +kernel
theorem tz_140_156 : tw_E sc d 140 156 [some (.ref a), x1, x2, x3] st g mi mr Q = tw_E sc d 140 157 [some (.ref a), x1, x2, x3] (.ref a :: st) g mi mr Q := tw_x_aload_n td_140_156 rfl
theorem td_140_157 : decode (tw_cd 140) 157 = .ok (.iconst 4, 1) := by decide +kernel
theorem tz_140_157 : tw_E sc d 140 157 [x0, x1, x2, x3] st g mi mr Q = tw_E sc d 140 158 [x0, x1, x2, x3] (.int 4 :: st) g mi mr Q := tw_x_iconst td_140_157 (by decide)
theorem td_140_158 : decode (tw_cd 140) 158 = .ok (.iload_n 2, 1) := by decide +kernel
theorem tz_140_158 : tw_E sc d 140 158 [x0, x1, some (.int v), x3] st g mi mr Q = tw_E sc d 140 159 [x0, x1, some (.int v), x3] (.int v :: st) g mi mr Q := tw_x_iload_n td_140_158 rfl
theorem td_140_159 : decode (tw_cd 140) 159 = .ok (.bipush (-9), 2) := by decide +kernel
theorem tz_140_159 : tw_E sc d 140 159 [x0, x1, x2, x3] st g mi mr Q = tw_E sc d 140 161 [x0, x1, x2, x3] (.int (-9) :: st) g mi mr Q := tw_x_bipush td_140_159 (by decide)
theorem td_140_161 : decode (tw_cd 140) 161 = .ok (.bipush (-9), 2) := by decide +kernel
theorem tz_140_161 : tw_E sc d 140 161 [x0, x1, x2, x3] st g mi mr Q = tw_E sc d 140 163 [x0, x1, x2, x3] (.int (-9) :: st) g mi mr Q := tw_x_bipush td_140_161 (by decide)
theorem td_140_163 : decode (tw_cd 140) 163 = .ok (.invokevirtual 144, 3) := by decide +kernel
theorem tz_140_163 {a0 : Int32} {a1 : Int32} {a2 : Int32} {a3 : Int32} : tw_E sc (d + 1) 140 163 [x0, x1, x2, x3] ([.int a3, .int a2, .int a1, .int a0, .ref a]) g mi mr Q = (tw_kd g a = 10 ∧ tw_E sc d 134 0 [some (.ref a), some (.int a0), some (.int a1), some (.int a2), some (.int a3)] [] g mi mr (tw_K sc (d + 1) 140 166 [x0, x1, x2, x3] [] Q)) := tw_x_cv (as := [.int a0, .int a1, .int a2, .int a3]) (r := []) td_140_163 to_140 tc_10_144 to_134 rfl rfl rfl rfl
theorem td_140_166 : decode (tw_cd 140) 166 = .ok (.aload_n 0, 1) := by decide +kernel
theorem tz_140_166 : tw_E sc d 140 166 [some (.ref a), x1, x2, x3] st g mi mr Q = tw_E sc d 140 167 [some (.ref a), x1, x2, x3] (.ref a :: st) g mi mr Q := tw_x_aload_n td_140_166 rfl
theorem td_140_167 : decode (tw_cd 140) 167 = .ok (.invokevirtual 141, 3) := by decide +kernel
theorem tz_140_167 : tw_E sc (d + 1) 140 167 [x0, x1, x2, x3] ([.ref a]) g mi mr Q = (tw_kd g a = 10 ∧ tw_E sc d 131 0 [some (.ref a)] [] g mi mr (tw_K sc (d + 1) 140 170 [x0, x1, x2, x3] [] Q)) := tw_x_cv (as := []) (r := []) td_140_167 to_140 tc_10_141 to_131 rfl rfl rfl rfl
theorem td_140_170 : decode (tw_cd 140) 170 = .ok (.goto (-99), 3) := by decide +kernel
theorem tz_140_170 : tw_E sc d 140 170 [x0, x1, x2, x3] st g mi mr Q = tw_E sc d 140 71 [x0, x1, x2, x3] st g mi mr Q := tw_x_goto td_140_170 (by decide)
theorem td_140_173 : decode (tw_cd 140) 173 = .ok (.aload_n 0, 1) := by decide +kernel
theorem tz_140_173 : tw_E sc d 140 173 [some (.ref a), x1, x2, x3] st g mi mr Q = tw_E sc d 140 174 [some (.ref a), x1, x2, x3] (.ref a :: st) g mi mr Q := tw_x_aload_n td_140_173 rfl
theorem td_140_174 : decode (tw_cd 140) 174 = .ok (.iconst 5, 1) := by decide +kernel
theorem tz_140_174 : tw_E sc d 140 174 [x0, x1, x2, x3] st g mi mr Q = tw_E sc d 140 175 [x0, x1, x2, x3] (.int 5 :: st) g mi mr Q := tw_x_iconst td_140_174 (by decide)
theorem td_140_175 : decode (tw_cd 140) 175 = .ok (.invokevirtual 152, 3) := by decide +kernel
theorem tz_140_175 {a0 : Int32} : tw_E sc (d + 1) 140 175 [x0, x1, x2, x3] ([.int a0, .ref a]) g mi mr Q = (tw_kd g a = 10 ∧ tw_E sc d 135 0 [some (.ref a), some (.int a0)] [] g mi mr (tw_K sc (d + 1) 140 178 [x0, x1, x2, x3] [] Q)) := tw_x_cv (as := [.int a0]) (r := []) td_140_175 to_140 tc_10_152 to_135 rfl rfl rfl rfl
theorem td_140_178 : decode (tw_cd 140) 178 = .ok (.ifCond .eq 67, 3) := by decide +kernel
theorem tz_140_178 : tw_E sc d 140 178 [x0, x1, x2, x3] (.int v :: st) g mi mr Q = if v = 0 then tw_E sc d 140 245 [x0, x1, x2, x3] st g mi mr Q else tw_E sc d 140 181 [x0, x1, x2, x3] st g mi mr Q := tw_x_if_eq td_140_178 (by decide)
theorem td_140_181 : decode (tw_cd 140) 181 = .ok (.aload_n 0, 1) := by decide +kernel
theorem tz_140_181 : tw_E sc d 140 181 [some (.ref a), x1, x2, x3] st g mi mr Q = tw_E sc d 140 182 [some (.ref a), x1, x2, x3] (.ref a :: st) g mi mr Q := tw_x_aload_n td_140_181 rfl
theorem td_140_182 : decode (tw_cd 140) 182 = .ok (.dup, 1) := by decide +kernel
theorem tz_140_182 : tw_E sc d 140 182 [x0, x1, x2, x3] (.ref a :: st) g mi mr Q = tw_E sc d 140 183 [x0, x1, x2, x3] (.ref a :: .ref a :: st) g mi mr Q := tw_x_dup_ref td_140_182
theorem td_140_183 : decode (tw_cd 140) 183 = .ok (.getfield 126, 3) := by decide +kernel
theorem tz_140_183 : tw_E sc d 140 183 [x0, x1, x2, x3] (.ref a :: st) g mi mr Q = (tw_kd g a = 10 ∧ tw_E sc d 140 186 [x0, x1, x2, x3] (.int (mi a 33) :: st) g mi mr Q) := tw_x_geti td_140_183 to_140 tf_10_126 (trf_10_33)
theorem td_140_186 : decode (tw_cd 140) 186 = .ok (.iconst 1, 1) := by decide +kernel
theorem tz_140_186 : tw_E sc d 140 186 [x0, x1, x2, x3] st g mi mr Q = tw_E sc d 140 187 [x0, x1, x2, x3] (.int 1 :: st) g mi mr Q := tw_x_iconst td_140_186 (by decide)
theorem td_140_187 : decode (tw_cd 140) 187 = .ok (.isub, 1) := by decide +kernel
theorem tz_140_187 : tw_E sc d 140 187 [x0, x1, x2, x3] (.int w :: .int v :: st) g mi mr Q = tw_E sc d 140 188 [x0, x1, x2, x3] (.int (v - w) :: st) g mi mr Q := tw_x_isub td_140_187
theorem td_140_188 : decode (tw_cd 140) 188 = .ok (.putfield 126, 3) := by decide +kernel
theorem tz_140_188 : tw_E sc d 140 188 [x0, x1, x2, x3] (.int v :: .ref a :: st) g mi mr Q = (tw_kd g a = 10 ∧ tw_E sc d 140 191 [x0, x1, x2, x3] st g (tw_st mi a (tw_st (mi a) 33 v)) mr Q) := tw_x_puti td_140_188 to_140 tf_10_126 rfl rfl
theorem td_140_191 : decode (tw_cd 140) 191 = .ok (.aload_n 0, 1) := by decide +kernel
theorem tz_140_191 : tw_E sc d 140 191 [some (.ref a), x1, x2, x3] st g mi mr Q = tw_E sc d 140 192 [some (.ref a), x1, x2, x3] (.ref a :: st) g mi mr Q := tw_x_aload_n td_140_191 rfl
theorem td_140_192 : decode (tw_cd 140) 192 = .ok (.aload_n 0, 1) := by decide +kernel
theorem tz_140_192 : tw_E sc d 140 192 [some (.ref a), x1, x2, x3] st g mi mr Q = tw_E sc d 140 193 [some (.ref a), x1, x2, x3] (.ref a :: st) g mi mr Q := tw_x_aload_n td_140_192 rfl
theorem td_140_193 : decode (tw_cd 140) 193 = .ok (.getfield 77, 3) := by decide +kernel
theorem tz_140_193 : tw_E sc d 140 193 [x0, x1, x2, x3] (.ref a :: st) g mi mr Q = (tw_kd g a = 10 ∧ tw_E sc d 140 196 [x0, x1, x2, x3] (va_rf (mr a 36) :: st) g mi mr Q) := tw_x_getr td_140_193 to_140 tf_10_77 (trf_10_36)
theorem td_140_196 : decode (tw_cd 140) 196 = .ok (.aload_n 0, 1) := by decide +kernel
theorem tz_140_196 : tw_E sc d 140 196 [some (.ref a), x1, x2, x3] st g mi mr Q = tw_E sc d 140 197 [some (.ref a), x1, x2, x3] (.ref a :: st) g mi mr Q := tw_x_aload_n td_140_196 rfl
theorem td_140_197 : decode (tw_cd 140) 197 = .ok (.getfield 126, 3) := by decide +kernel
theorem tz_140_197 : tw_E sc d 140 197 [x0, x1, x2, x3] (.ref a :: st) g mi mr Q = (tw_kd g a = 10 ∧ tw_E sc d 140 200 [x0, x1, x2, x3] (.int (mi a 33) :: st) g mi mr Q) := tw_x_geti td_140_197 to_140 tf_10_126 (trf_10_33)
theorem td_140_200 : decode (tw_cd 140) 200 = .ok (.iaload, 1) := by decide +kernel
theorem tz_140_200 : tw_E sc d 140 200 [x0, x1, x2, x3] (.int v :: .ref a :: st) g mi mr Q = ((tw_kd g a = 20 ∧ vp_in v (tw_ln g a)) ∧ tw_E sc d 140 201 [x0, x1, x2, x3] (.int (mi a v.toNatClampNeg) :: st) g mi mr Q) := tw_x_iald td_140_200
theorem td_140_201 : decode (tw_cd 140) 201 = .ok (.bipush (-9), 2) := by decide +kernel
theorem tz_140_201 : tw_E sc d 140 201 [x0, x1, x2, x3] st g mi mr Q = tw_E sc d 140 203 [x0, x1, x2, x3] (.int (-9) :: st) g mi mr Q := tw_x_bipush td_140_201 (by decide)
theorem td_140_203 : decode (tw_cd 140) 203 = .ok (.if_icmp .ne 8, 3) := by decide +kernel
theorem tz_140_203 : tw_E sc d 140 203 [x0, x1, x2, x3] (.int w :: .int v :: st) g mi mr Q = if ¬ v = w then tw_E sc d 140 211 [x0, x1, x2, x3] st g mi mr Q else tw_E sc d 140 206 [x0, x1, x2, x3] st g mi mr Q := tw_x_ic_ne td_140_203 (by decide)
theorem td_140_206 : decode (tw_cd 140) 206 = .ok (.bipush 6, 2) := by decide +kernel
theorem tz_140_206 : tw_E sc d 140 206 [x0, x1, x2, x3] st g mi mr Q = tw_E sc d 140 208 [x0, x1, x2, x3] (.int 6 :: st) g mi mr Q := tw_x_bipush td_140_206 (by decide)
theorem td_140_208 : decode (tw_cd 140) 208 = .ok (.goto 5, 3) := by decide +kernel
theorem tz_140_208 : tw_E sc d 140 208 [x0, x1, x2, x3] st g mi mr Q = tw_E sc d 140 213 [x0, x1, x2, x3] st g mi mr Q := tw_x_goto td_140_208 (by decide)
theorem td_140_211 : decode (tw_cd 140) 211 = .ok (.bipush 7, 2) := by decide +kernel
theorem tz_140_211 : tw_E sc d 140 211 [x0, x1, x2, x3] st g mi mr Q = tw_E sc d 140 213 [x0, x1, x2, x3] (.int 7 :: st) g mi mr Q := tw_x_bipush td_140_211 (by decide)
theorem td_140_213 : decode (tw_cd 140) 213 = .ok (.aload_n 0, 1) := by decide +kernel
theorem tz_140_213 : tw_E sc d 140 213 [some (.ref a), x1, x2, x3] st g mi mr Q = tw_E sc d 140 214 [some (.ref a), x1, x2, x3] (.ref a :: st) g mi mr Q := tw_x_aload_n td_140_213 rfl
theorem td_140_214 : decode (tw_cd 140) 214 = .ok (.getfield 74, 3) := by decide +kernel
theorem tz_140_214 : tw_E sc d 140 214 [x0, x1, x2, x3] (.ref a :: st) g mi mr Q = (tw_kd g a = 10 ∧ tw_E sc d 140 217 [x0, x1, x2, x3] (va_rf (mr a 35) :: st) g mi mr Q) := tw_x_getr td_140_214 to_140 tf_10_74 (trf_10_35)
theorem td_140_217 : decode (tw_cd 140) 217 = .ok (.aload_n 0, 1) := by decide +kernel
theorem tz_140_217 : tw_E sc d 140 217 [some (.ref a), x1, x2, x3] st g mi mr Q = tw_E sc d 140 218 [some (.ref a), x1, x2, x3] (.ref a :: st) g mi mr Q := tw_x_aload_n td_140_217 rfl
theorem td_140_218 : decode (tw_cd 140) 218 = .ok (.getfield 126, 3) := by decide +kernel
theorem tz_140_218 : tw_E sc d 140 218 [x0, x1, x2, x3] (.ref a :: st) g mi mr Q = (tw_kd g a = 10 ∧ tw_E sc d 140 221 [x0, x1, x2, x3] (.int (mi a 33) :: st) g mi mr Q) := tw_x_geti td_140_218 to_140 tf_10_126 (trf_10_33)
theorem td_140_221 : decode (tw_cd 140) 221 = .ok (.iaload, 1) := by decide +kernel
theorem tz_140_221 : tw_E sc d 140 221 [x0, x1, x2, x3] (.int v :: .ref a :: st) g mi mr Q = ((tw_kd g a = 20 ∧ vp_in v (tw_ln g a)) ∧ tw_E sc d 140 222 [x0, x1, x2, x3] (.int (mi a v.toNatClampNeg) :: st) g mi mr Q) := tw_x_iald td_140_221
theorem td_140_222 : decode (tw_cd 140) 222 = .ok (.iload_n 2, 1) := by decide +kernel
theorem tz_140_222 : tw_E sc d 140 222 [x0, x1, some (.int v), x3] st g mi mr Q = tw_E sc d 140 223 [x0, x1, some (.int v), x3] (.int v :: st) g mi mr Q := tw_x_iload_n td_140_222 rfl
theorem td_140_223 : decode (tw_cd 140) 223 = .ok (.aload_n 0, 1) := by decide +kernel
theorem tz_140_223 : tw_E sc d 140 223 [some (.ref a), x1, x2, x3] st g mi mr Q = tw_E sc d 140 224 [some (.ref a), x1, x2, x3] (.ref a :: st) g mi mr Q := tw_x_aload_n td_140_223 rfl
theorem td_140_224 : decode (tw_cd 140) 224 = .ok (.getfield 77, 3) := by decide +kernel
theorem tz_140_224 : tw_E sc d 140 224 [x0, x1, x2, x3] (.ref a :: st) g mi mr Q = (tw_kd g a = 10 ∧ tw_E sc d 140 227 [x0, x1, x2, x3] (va_rf (mr a 36) :: st) g mi mr Q) := tw_x_getr td_140_224 to_140 tf_10_77 (trf_10_36)
theorem td_140_227 : decode (tw_cd 140) 227 = .ok (.aload_n 0, 1) := by decide +kernel
theorem tz_140_227 : tw_E sc d 140 227 [some (.ref a), x1, x2, x3] st g mi mr Q = tw_E sc d 140 228 [some (.ref a), x1, x2, x3] (.ref a :: st) g mi mr Q := tw_x_aload_n td_140_227 rfl
theorem td_140_228 : decode (tw_cd 140) 228 = .ok (.getfield 126, 3) := by decide +kernel
theorem tz_140_228 : tw_E sc d 140 228 [x0, x1, x2, x3] (.ref a :: st) g mi mr Q = (tw_kd g a = 10 ∧ tw_E sc d 140 231 [x0, x1, x2, x3] (.int (mi a 33) :: st) g mi mr Q) := tw_x_geti td_140_228 to_140 tf_10_126 (trf_10_33)
theorem td_140_231 : decode (tw_cd 140) 231 = .ok (.iaload, 1) := by decide +kernel
theorem tz_140_231 : tw_E sc d 140 231 [x0, x1, x2, x3] (.int v :: .ref a :: st) g mi mr Q = ((tw_kd g a = 20 ∧ vp_in v (tw_ln g a)) ∧ tw_E sc d 140 232 [x0, x1, x2, x3] (.int (mi a v.toNatClampNeg) :: st) g mi mr Q) := tw_x_iald td_140_231
theorem td_140_232 : decode (tw_cd 140) 232 = .ok (.aload_n 0, 1) := by decide +kernel
theorem tz_140_232 : tw_E sc d 140 232 [some (.ref a), x1, x2, x3] st g mi mr Q = tw_E sc d 140 233 [some (.ref a), x1, x2, x3] (.ref a :: st) g mi mr Q := tw_x_aload_n td_140_232 rfl
theorem td_140_233 : decode (tw_cd 140) 233 = .ok (.getfield 80, 3) := by decide +kernel
theorem tz_140_233 : tw_E sc d 140 233 [x0, x1, x2, x3] (.ref a :: st) g mi mr Q = (tw_kd g a = 10 ∧ tw_E sc d 140 236 [x0, x1, x2, x3] (va_rf (mr a 37) :: st) g mi mr Q) := tw_x_getr td_140_233 to_140 tf_10_80 (trf_10_37)
theorem td_140_236 : decode (tw_cd 140) 236 = .ok (.aload_n 0, 1) := by decide +kernel
theorem tz_140_236 : tw_E sc d 140 236 [some (.ref a), x1, x2, x3] st g mi mr Q = tw_E sc d 140 237 [some (.ref a), x1, x2, x3] (.ref a :: st) g mi mr Q := tw_x_aload_n td_140_236 rfl
theorem td_140_237 : decode (tw_cd 140) 237 = .ok (.getfield 126, 3) := by decide +kernel
theorem tz_140_237 : tw_E sc d 140 237 [x0, x1, x2, x3] (.ref a :: st) g mi mr Q = (tw_kd g a = 10 ∧ tw_E sc d 140 240 [x0, x1, x2, x3] (.int (mi a 33) :: st) g mi mr Q) := tw_x_geti td_140_237 to_140 tf_10_126 (trf_10_33)
theorem td_140_240 : decode (tw_cd 140) 240 = .ok (.iaload, 1) := by decide +kernel
theorem tz_140_240 : tw_E sc d 140 240 [x0, x1, x2, x3] (.int v :: .ref a :: st) g mi mr Q = ((tw_kd g a = 20 ∧ vp_in v (tw_ln g a)) ∧ tw_E sc d 140 241 [x0, x1, x2, x3] (.int (mi a v.toNatClampNeg) :: st) g mi mr Q) := tw_x_iald td_140_240
theorem td_140_241 : decode (tw_cd 140) 241 = .ok (.invokevirtual 148, 3) := by decide +kernel
theorem tz_140_241 {a0 : Int32} {a1 : Int32} {a2 : Int32} {a3 : Int32} {a4 : Int32} : tw_E sc (d + 1) 140 241 [x0, x1, x2, x3] ([.int a4, .int a3, .int a2, .int a1, .int a0, .ref a]) g mi mr Q = (tw_kd g a = 10 ∧ tw_E sc d 133 0 [some (.ref a), some (.int a0), some (.int a1), some (.int a2), some (.int a3), some (.int a4)] [] g mi mr (tw_K sc (d + 1) 140 244 [x0, x1, x2, x3] [] Q)) := tw_x_cv (as := [.int a0, .int a1, .int a2, .int a3, .int a4]) (r := []) td_140_241 to_140 tc_10_148 to_133 rfl rfl rfl rfl
theorem td_140_244 : decode (tw_cd 140) 244 = .ok (.istore_n 2, 1) := by decide +kernel
theorem tz_140_244 : tw_E sc d 140 244 [x0, x1, x2, x3] (.int v :: st) g mi mr Q = tw_E sc d 140 245 [x0, x1, some (.int v), x3] st g mi mr Q := tw_x_istore_n td_140_244 tp_140 rfl
theorem td_140_245 : decode (tw_cd 140) 245 = .ok (.aload_n 0, 1) := by decide +kernel
theorem tz_140_245 : tw_E sc d 140 245 [some (.ref a), x1, x2, x3] st g mi mr Q = tw_E sc d 140 246 [some (.ref a), x1, x2, x3] (.ref a :: st) g mi mr Q := tw_x_aload_n td_140_245 rfl
theorem td_140_246 : decode (tw_cd 140) 246 = .ok (.bipush 59, 2) := by decide +kernel
theorem tz_140_246 : tw_E sc d 140 246 [x0, x1, x2, x3] st g mi mr Q = tw_E sc d 140 248 [x0, x1, x2, x3] (.int 59 :: st) g mi mr Q := tw_x_bipush td_140_246 (by decide)
theorem td_140_248 : decode (tw_cd 140) 248 = .ok (.invokevirtual 135, 3) := by decide +kernel
theorem tz_140_248 {a0 : Int32} : tw_E sc (d + 1) 140 248 [x0, x1, x2, x3] ([.int a0, .ref a]) g mi mr Q = (tw_kd g a = 10 ∧ tw_E sc d 132 0 [some (.ref a), some (.int a0)] [] g mi mr (tw_K sc (d + 1) 140 251 [x0, x1, x2, x3] [] Q)) := tw_x_cv (as := [.int a0]) (r := []) td_140_248 to_140 tc_10_135 to_132 rfl rfl rfl rfl
theorem td_140_251 : decode (tw_cd 140) 251 = .ok (.ifCond .eq 11, 3) := by decide +kernel
theorem tz_140_251 : tw_E sc d 140 251 [x0, x1, x2, x3] (.int v :: st) g mi mr Q = if v = 0 then tw_E sc d 140 262 [x0, x1, x2, x3] st g mi mr Q else tw_E sc d 140 254 [x0, x1, x2, x3] st g mi mr Q := tw_x_if_eq td_140_251 (by decide)
theorem td_140_254 : decode (tw_cd 140) 254 = .ok (.aload_n 0, 1) := by decide +kernel
theorem tz_140_254 : tw_E sc d 140 254 [some (.ref a), x1, x2, x3] st g mi mr Q = tw_E sc d 140 255 [some (.ref a), x1, x2, x3] (.ref a :: st) g mi mr Q := tw_x_aload_n td_140_254 rfl
theorem td_140_255 : decode (tw_cd 140) 255 = .ok (.iload_n 2, 1) := by decide +kernel
theorem tz_140_255 : tw_E sc d 140 255 [x0, x1, some (.int v), x3] st g mi mr Q = tw_E sc d 140 256 [x0, x1, some (.int v), x3] (.int v :: st) g mi mr Q := tw_x_iload_n td_140_255 rfl
theorem td_140_256 : decode (tw_cd 140) 256 = .ok (.invokevirtual 166, 3) := by decide +kernel
theorem tz_140_256 {a0 : Int32} : tw_E sc (d + 1) 140 256 [x0, x1, x2, x3] ([.int a0, .ref a]) g mi mr Q = (tw_kd g a = 10 ∧ tw_E sc d 139 0 [some (.ref a), some (.int a0), none, none, none] [] g mi mr (tw_K sc (d + 1) 140 259 [x0, x1, x2, x3] [] Q)) := tw_x_cv (as := [.int a0]) (r := []) td_140_256 to_140 tc_10_166 to_139 rfl rfl rfl rfl
theorem td_140_259 : decode (tw_cd 140) 259 = .ok (.goto (-188), 3) := by decide +kernel
theorem tz_140_259 : tw_E sc d 140 259 [x0, x1, x2, x3] st g mi mr Q = tw_E sc d 140 71 [x0, x1, x2, x3] st g mi mr Q := tw_x_goto td_140_259 (by decide)
theorem td_140_262 : decode (tw_cd 140) 262 = .ok (.aload_n 0, 1) := by decide +kernel
theorem tz_140_262 : tw_E sc d 140 262 [some (.ref a), x1, x2, x3] st g mi mr Q = tw_E sc d 140 263 [some (.ref a), x1, x2, x3] (.ref a :: st) g mi mr Q := tw_x_aload_n td_140_262 rfl
theorem td_140_263 : decode (tw_cd 140) 263 = .ok (.bipush 41, 2) := by decide +kernel
theorem tz_140_263 : tw_E sc d 140 263 [x0, x1, x2, x3] st g mi mr Q = tw_E sc d 140 265 [x0, x1, x2, x3] (.int 41 :: st) g mi mr Q := tw_x_bipush td_140_263 (by decide)
theorem td_140_265 : decode (tw_cd 140) 265 = .ok (.invokevirtual 135, 3) := by decide +kernel
theorem tz_140_265 {a0 : Int32} : tw_E sc (d + 1) 140 265 [x0, x1, x2, x3] ([.int a0, .ref a]) g mi mr Q = (tw_kd g a = 10 ∧ tw_E sc d 132 0 [some (.ref a), some (.int a0)] [] g mi mr (tw_K sc (d + 1) 140 268 [x0, x1, x2, x3] [] Q)) := tw_x_cv (as := [.int a0]) (r := []) td_140_265 to_140 tc_10_135 to_132 rfl rfl rfl rfl
theorem td_140_268 : decode (tw_cd 140) 268 = .ok (.ifCond .eq 40, 3) := by decide +kernel
theorem tz_140_268 : tw_E sc d 140 268 [x0, x1, x2, x3] (.int v :: st) g mi mr Q = if v = 0 then tw_E sc d 140 308 [x0, x1, x2, x3] st g mi mr Q else tw_E sc d 140 271 [x0, x1, x2, x3] st g mi mr Q := tw_x_if_eq td_140_268 (by decide)
theorem td_140_271 : decode (tw_cd 140) 271 = .ok (.aload_n 0, 1) := by decide +kernel
theorem tz_140_271 : tw_E sc d 140 271 [some (.ref a), x1, x2, x3] st g mi mr Q = tw_E sc d 140 272 [some (.ref a), x1, x2, x3] (.ref a :: st) g mi mr Q := tw_x_aload_n td_140_271 rfl
theorem td_140_272 : decode (tw_cd 140) 272 = .ok (.iconst 0, 1) := by decide +kernel
theorem tz_140_272 : tw_E sc d 140 272 [x0, x1, x2, x3] st g mi mr Q = tw_E sc d 140 273 [x0, x1, x2, x3] (.int 0 :: st) g mi mr Q := tw_x_iconst td_140_272 (by decide)
theorem td_140_273 : decode (tw_cd 140) 273 = .ok (.invokevirtual 152, 3) := by decide +kernel
theorem tz_140_273 {a0 : Int32} : tw_E sc (d + 1) 140 273 [x0, x1, x2, x3] ([.int a0, .ref a]) g mi mr Q = (tw_kd g a = 10 ∧ tw_E sc d 135 0 [some (.ref a), some (.int a0)] [] g mi mr (tw_K sc (d + 1) 140 276 [x0, x1, x2, x3] [] Q)) := tw_x_cv (as := [.int a0]) (r := []) td_140_273 to_140 tc_10_152 to_135 rfl rfl rfl rfl
theorem td_140_276 : decode (tw_cd 140) 276 = .ok (.ifCond .eq 32, 3) := by decide +kernel
theorem tz_140_276 : tw_E sc d 140 276 [x0, x1, x2, x3] (.int v :: st) g mi mr Q = if v = 0 then tw_E sc d 140 308 [x0, x1, x2, x3] st g mi mr Q else tw_E sc d 140 279 [x0, x1, x2, x3] st g mi mr Q := tw_x_if_eq td_140_276 (by decide)
theorem td_140_279 : decode (tw_cd 140) 279 = .ok (.aload_n 0, 1) := by decide +kernel
theorem tz_140_279 : tw_E sc d 140 279 [some (.ref a), x1, x2, x3] st g mi mr Q = tw_E sc d 140 280 [some (.ref a), x1, x2, x3] (.ref a :: st) g mi mr Q := tw_x_aload_n td_140_279 rfl
theorem td_140_280 : decode (tw_cd 140) 280 = .ok (.dup, 1) := by decide +kernel
theorem tz_140_280 : tw_E sc d 140 280 [x0, x1, x2, x3] (.ref a :: st) g mi mr Q = tw_E sc d 140 281 [x0, x1, x2, x3] (.ref a :: .ref a :: st) g mi mr Q := tw_x_dup_ref td_140_280
theorem td_140_281 : decode (tw_cd 140) 281 = .ok (.getfield 126, 3) := by decide +kernel
theorem tz_140_281 : tw_E sc d 140 281 [x0, x1, x2, x3] (.ref a :: st) g mi mr Q = (tw_kd g a = 10 ∧ tw_E sc d 140 284 [x0, x1, x2, x3] (.int (mi a 33) :: st) g mi mr Q) := tw_x_geti td_140_281 to_140 tf_10_126 (trf_10_33)
theorem td_140_284 : decode (tw_cd 140) 284 = .ok (.iconst 1, 1) := by decide +kernel
theorem tz_140_284 : tw_E sc d 140 284 [x0, x1, x2, x3] st g mi mr Q = tw_E sc d 140 285 [x0, x1, x2, x3] (.int 1 :: st) g mi mr Q := tw_x_iconst td_140_284 (by decide)
theorem td_140_285 : decode (tw_cd 140) 285 = .ok (.isub, 1) := by decide +kernel
theorem tz_140_285 : tw_E sc d 140 285 [x0, x1, x2, x3] (.int w :: .int v :: st) g mi mr Q = tw_E sc d 140 286 [x0, x1, x2, x3] (.int (v - w) :: st) g mi mr Q := tw_x_isub td_140_285
theorem td_140_286 : decode (tw_cd 140) 286 = .ok (.putfield 126, 3) := by decide +kernel
theorem tz_140_286 : tw_E sc d 140 286 [x0, x1, x2, x3] (.int v :: .ref a :: st) g mi mr Q = (tw_kd g a = 10 ∧ tw_E sc d 140 289 [x0, x1, x2, x3] st g (tw_st mi a (tw_st (mi a) 33 v)) mr Q) := tw_x_puti td_140_286 to_140 tf_10_126 rfl rfl
theorem td_140_289 : decode (tw_cd 140) 289 = .ok (.aload_n 0, 1) := by decide +kernel
theorem tz_140_289 : tw_E sc d 140 289 [some (.ref a), x1, x2, x3] st g mi mr Q = tw_E sc d 140 290 [some (.ref a), x1, x2, x3] (.ref a :: st) g mi mr Q := tw_x_aload_n td_140_289 rfl
theorem td_140_290 : decode (tw_cd 140) 290 = .ok (.dup, 1) := by decide +kernel
theorem tz_140_290 : tw_E sc d 140 290 [x0, x1, x2, x3] (.ref a :: st) g mi mr Q = tw_E sc d 140 291 [x0, x1, x2, x3] (.ref a :: .ref a :: st) g mi mr Q := tw_x_dup_ref td_140_290
theorem td_140_291 : decode (tw_cd 140) 291 = .ok (.getfield 129, 3) := by decide +kernel
theorem tz_140_291 : tw_E sc d 140 291 [x0, x1, x2, x3] (.ref a :: st) g mi mr Q = (tw_kd g a = 10 ∧ tw_E sc d 140 294 [x0, x1, x2, x3] (.int (mi a 38) :: st) g mi mr Q) := tw_x_geti td_140_291 to_140 tf_10_129 (trf_10_38)
theorem td_140_294 : decode (tw_cd 140) 294 = .ok (.iconst 1, 1) := by decide +kernel
theorem tz_140_294 : tw_E sc d 140 294 [x0, x1, x2, x3] st g mi mr Q = tw_E sc d 140 295 [x0, x1, x2, x3] (.int 1 :: st) g mi mr Q := tw_x_iconst td_140_294 (by decide)
theorem td_140_295 : decode (tw_cd 140) 295 = .ok (.isub, 1) := by decide +kernel
theorem tz_140_295 : tw_E sc d 140 295 [x0, x1, x2, x3] (.int w :: .int v :: st) g mi mr Q = tw_E sc d 140 296 [x0, x1, x2, x3] (.int (v - w) :: st) g mi mr Q := tw_x_isub td_140_295
theorem td_140_296 : decode (tw_cd 140) 296 = .ok (.putfield 129, 3) := by decide +kernel
theorem tz_140_296 : tw_E sc d 140 296 [x0, x1, x2, x3] (.int v :: .ref a :: st) g mi mr Q = (tw_kd g a = 10 ∧ tw_E sc d 140 299 [x0, x1, x2, x3] st g (tw_st mi a (tw_st (mi a) 38 v)) mr Q) := tw_x_puti td_140_296 to_140 tf_10_129 rfl rfl
theorem td_140_299 : decode (tw_cd 140) 299 = .ok (.aload_n 0, 1) := by decide +kernel
theorem tz_140_299 : tw_E sc d 140 299 [some (.ref a), x1, x2, x3] st g mi mr Q = tw_E sc d 140 300 [some (.ref a), x1, x2, x3] (.ref a :: st) g mi mr Q := tw_x_aload_n td_140_299 rfl
theorem td_140_300 : decode (tw_cd 140) 300 = .ok (.invokevirtual 141, 3) := by decide +kernel
theorem tz_140_300 : tw_E sc (d + 1) 140 300 [x0, x1, x2, x3] ([.ref a]) g mi mr Q = (tw_kd g a = 10 ∧ tw_E sc d 131 0 [some (.ref a)] [] g mi mr (tw_K sc (d + 1) 140 303 [x0, x1, x2, x3] [] Q)) := tw_x_cv (as := []) (r := []) td_140_300 to_140 tc_10_141 to_131 rfl rfl rfl rfl
theorem td_140_303 : decode (tw_cd 140) 303 = .ok (.iconst 1, 1) := by decide +kernel
theorem tz_140_303 : tw_E sc d 140 303 [x0, x1, x2, x3] st g mi mr Q = tw_E sc d 140 304 [x0, x1, x2, x3] (.int 1 :: st) g mi mr Q := tw_x_iconst td_140_303 (by decide)
theorem td_140_304 : decode (tw_cd 140) 304 = .ok (.istore_n 3, 1) := by decide +kernel
theorem tz_140_304 : tw_E sc d 140 304 [x0, x1, x2, x3] (.int v :: st) g mi mr Q = tw_E sc d 140 305 [x0, x1, x2, some (.int v)] st g mi mr Q := tw_x_istore_n td_140_304 tp_140 rfl
theorem td_140_305 : decode (tw_cd 140) 305 = .ok (.goto (-234), 3) := by decide +kernel
theorem tz_140_305 : tw_E sc d 140 305 [x0, x1, x2, x3] st g mi mr Q = tw_E sc d 140 71 [x0, x1, x2, x3] st g mi mr Q := tw_x_goto td_140_305 (by decide)
theorem td_140_308 : decode (tw_cd 140) 308 = .ok (.aload_n 0, 1) := by decide +kernel
theorem tz_140_308 : tw_E sc d 140 308 [some (.ref a), x1, x2, x3] st g mi mr Q = tw_E sc d 140 309 [some (.ref a), x1, x2, x3] (.ref a :: st) g mi mr Q := tw_x_aload_n td_140_308 rfl
theorem td_140_309 : decode (tw_cd 140) 309 = .ok (.getfield 109, 3) := by decide +kernel
theorem tz_140_309 : tw_E sc d 140 309 [x0, x1, x2, x3] (.ref a :: st) g mi mr Q = (tw_kd g a = 10 ∧ tw_E sc d 140 312 [x0, x1, x2, x3] (.int (mi a 30) :: st) g mi mr Q) := tw_x_geti td_140_309 to_140 tf_10_109 (trf_10_30)
theorem td_140_312 : decode (tw_cd 140) 312 = .ok (.ifCond .ne 15, 3) := by decide +kernel
theorem tz_140_312 : tw_E sc d 140 312 [x0, x1, x2, x3] (.int v :: st) g mi mr Q = if ¬ v = 0 then tw_E sc d 140 327 [x0, x1, x2, x3] st g mi mr Q else tw_E sc d 140 315 [x0, x1, x2, x3] st g mi mr Q := tw_x_if_ne td_140_312 (by decide)
theorem td_140_315 : decode (tw_cd 140) 315 = .ok (.aload_n 0, 1) := by decide +kernel
theorem tz_140_315 : tw_E sc d 140 315 [some (.ref a), x1, x2, x3] st g mi mr Q = tw_E sc d 140 316 [some (.ref a), x1, x2, x3] (.ref a :: st) g mi mr Q := tw_x_aload_n td_140_315 rfl
theorem td_140_316 : decode (tw_cd 140) 316 = .ok (.getfield 126, 3) := by decide +kernel
theorem tz_140_316 : tw_E sc d 140 316 [x0, x1, x2, x3] (.ref a :: st) g mi mr Q = (tw_kd g a = 10 ∧ tw_E sc d 140 319 [x0, x1, x2, x3] (.int (mi a 33) :: st) g mi mr Q) := tw_x_geti td_140_316 to_140 tf_10_126 (trf_10_33)
theorem td_140_319 : decode (tw_cd 140) 319 = .ok (.ifCond .ne 8, 3) := by decide +kernel
theorem tz_140_319 : tw_E sc d 140 319 [x0, x1, x2, x3] (.int v :: st) g mi mr Q = if ¬ v = 0 then tw_E sc d 140 327 [x0, x1, x2, x3] st g mi mr Q else tw_E sc d 140 322 [x0, x1, x2, x3] st g mi mr Q := tw_x_if_ne td_140_319 (by decide)
theorem td_140_322 : decode (tw_cd 140) 322 = .ok (.iconst 0, 1) := by decide +kernel
theorem tz_140_322 : tw_E sc d 140 322 [x0, x1, x2, x3] st g mi mr Q = tw_E sc d 140 323 [x0, x1, x2, x3] (.int 0 :: st) g mi mr Q := tw_x_iconst td_140_322 (by decide)
theorem td_140_323 : decode (tw_cd 140) 323 = .ok (.istore_n 1, 1) := by decide +kernel
theorem tz_140_323 : tw_E sc d 140 323 [x0, x1, x2, x3] (.int v :: st) g mi mr Q = tw_E sc d 140 324 [x0, some (.int v), x2, x3] st g mi mr Q := tw_x_istore_n td_140_323 tp_140 rfl
theorem td_140_324 : decode (tw_cd 140) 324 = .ok (.goto (-253), 3) := by decide +kernel
theorem tz_140_324 : tw_E sc d 140 324 [x0, x1, x2, x3] st g mi mr Q = tw_E sc d 140 71 [x0, x1, x2, x3] st g mi mr Q := tw_x_goto td_140_324 (by decide)
theorem td_140_327 : decode (tw_cd 140) 327 = .ok (.aload_n 0, 1) := by decide +kernel
theorem tz_140_327 : tw_E sc d 140 327 [some (.ref a), x1, x2, x3] st g mi mr Q = tw_E sc d 140 328 [some (.ref a), x1, x2, x3] (.ref a :: st) g mi mr Q := tw_x_aload_n td_140_327 rfl
theorem td_140_328 : decode (tw_cd 140) 328 = .ok (.invokevirtual 138, 3) := by decide +kernel
theorem tz_140_328 : tw_E sc (d + 1) 140 328 [x0, x1, x2, x3] ([.ref a]) g mi mr Q = (tw_kd g a = 10 ∧ tw_E sc d 136 0 [some (.ref a)] [] g mi mr (tw_K sc (d + 1) 140 331 [x0, x1, x2, x3] [] Q)) := tw_x_cv (as := []) (r := []) td_140_328 to_140 tc_10_138 to_136 rfl rfl rfl rfl
theorem td_140_331 : decode (tw_cd 140) 331 = .ok (.goto (-260), 3) := by decide +kernel
theorem tz_140_331 : tw_E sc d 140 331 [x0, x1, x2, x3] st g mi mr Q = tw_E sc d 140 71 [x0, x1, x2, x3] st g mi mr Q := tw_x_goto td_140_331 (by decide)
theorem td_140_334 : decode (tw_cd 140) 334 = .ok (.goto (-296), 3) := by decide +kernel
theorem tz_140_334 : tw_E sc d 140 334 [x0, x1, x2, x3] st g mi mr Q = tw_E sc d 140 38 [x0, x1, x2, x3] st g mi mr Q := tw_x_goto td_140_334 (by decide)
theorem td_140_337 : decode (tw_cd 140) 337 = .ok (.return_, 1) := by decide +kernel
theorem tz_140_337 : tw_E sc d 140 337 [x0, x1, x2, x3] [] g mi mr Q = Q none g mi mr := tw_x_vret td_140_337 tr_140
end tz_140
-- 141: Mo_read
section tz_141
variable {sc : Nat × (Nat → Int32)} {d : Nat} {x0 x1 : Option Value} {st : List Value} {g : tw_G} {mi : tw_I} {mr : tw_Q} {Q : Option Value → tw_G → tw_I → tw_Q → Prop} {v w u : Int32} {a b : Nat} {j h : Int64} {s1 s2 s3 s4 : Value}
theorem td_141_0 : decode (tw_cd 141) 0 = .ok (.aload_n 0, 1) := by decide +kernel
theorem tz_141_0 : tw_E sc d 141 0 [some (.ref a), x1] st g mi mr Q = tw_E sc d 141 1 [some (.ref a), x1] (.ref a :: st) g mi mr Q := tw_x_aload_n td_141_0 rfl
theorem td_141_1 : decode (tw_cd 141) 1 = .ok (.iconst 0, 1) := by decide +kernel
theorem tz_141_1 : tw_E sc d 141 1 [x0, x1] st g mi mr Q = tw_E sc d 141 2 [x0, x1] (.int 0 :: st) g mi mr Q := tw_x_iconst td_141_1 (by decide)
theorem td_141_2 : decode (tw_cd 141) 2 = .ok (.putfield 83, 3) := by decide +kernel
theorem tz_141_2 : tw_E sc d 141 2 [x0, x1] (.int v :: .ref a :: st) g mi mr Q = (tw_kd g a = 10 ∧ tw_E sc d 141 5 [x0, x1] st g (tw_st mi a (tw_st (mi a) 0 v)) mr Q) := tw_x_puti td_141_2 to_141 tf_10_83 rfl rfl
theorem td_141_5 : decode (tw_cd 141) 5 = .ok (.aload_n 0, 1) := by decide +kernel
theorem tz_141_5 : tw_E sc d 141 5 [some (.ref a), x1] st g mi mr Q = tw_E sc d 141 6 [some (.ref a), x1] (.ref a :: st) g mi mr Q := tw_x_aload_n td_141_5 rfl
theorem td_141_6 : decode (tw_cd 141) 6 = .ok (.invokevirtual 170, 3) := by decide +kernel
theorem tz_141_6 : tw_E sc (d + 1) 141 6 [x0, x1] ([.ref a]) g mi mr Q = (tw_kd g a = 10 ∧ tw_E sc d 140 0 [some (.ref a), none, none, none] [] g mi mr (tw_K sc (d + 1) 141 9 [x0, x1] [] Q)) := tw_x_cv (as := []) (r := []) td_141_6 to_141 tc_10_170 to_140 rfl rfl rfl rfl
theorem td_141_9 : decode (tw_cd 141) 9 = .ok (.aload_n 0, 1) := by decide +kernel
theorem tz_141_9 : tw_E sc d 141 9 [some (.ref a), x1] st g mi mr Q = tw_E sc d 141 10 [some (.ref a), x1] (.ref a :: st) g mi mr Q := tw_x_aload_n td_141_9 rfl
theorem td_141_10 : decode (tw_cd 141) 10 = .ok (.getfield 132, 3) := by decide +kernel
theorem tz_141_10 : tw_E sc d 141 10 [x0, x1] (.ref a :: st) g mi mr Q = (tw_kd g a = 10 ∧ tw_E sc d 141 13 [x0, x1] (.int (mi a 39) :: st) g mi mr Q) := tw_x_geti td_141_10 to_141 tf_10_132 (trf_10_39)
theorem td_141_13 : decode (tw_cd 141) 13 = .ok (.bipush (-9), 2) := by decide +kernel
theorem tz_141_13 : tw_E sc d 141 13 [x0, x1] st g mi mr Q = tw_E sc d 141 15 [x0, x1] (.int (-9) :: st) g mi mr Q := tw_x_bipush td_141_13 (by decide)
theorem td_141_15 : decode (tw_cd 141) 15 = .ok (.if_icmp .ne 12, 3) := by decide +kernel
theorem tz_141_15 : tw_E sc d 141 15 [x0, x1] (.int w :: .int v :: st) g mi mr Q = if ¬ v = w then tw_E sc d 141 27 [x0, x1] st g mi mr Q else tw_E sc d 141 18 [x0, x1] st g mi mr Q := tw_x_ic_ne td_141_15 (by decide)
theorem td_141_18 : decode (tw_cd 141) 18 = .ok (.aload_n 0, 1) := by decide +kernel
theorem tz_141_18 : tw_E sc d 141 18 [some (.ref a), x1] st g mi mr Q = tw_E sc d 141 19 [some (.ref a), x1] (.ref a :: st) g mi mr Q := tw_x_aload_n td_141_18 rfl
theorem td_141_19 : decode (tw_cd 141) 19 = .ok (.getfield 155, 3) := by decide +kernel
theorem tz_141_19 : tw_E sc d 141 19 [x0, x1] (.ref a :: st) g mi mr Q = (tw_kd g a = 10 ∧ tw_E sc d 141 22 [x0, x1] (.int (mi a 40) :: st) g mi mr Q) := tw_x_geti td_141_19 to_141 tf_10_155 (trf_10_40)
theorem td_141_22 : decode (tw_cd 141) 22 = .ok (.bipush (-9), 2) := by decide +kernel
theorem tz_141_22 : tw_E sc d 141 22 [x0, x1] st g mi mr Q = tw_E sc d 141 24 [x0, x1] (.int (-9) :: st) g mi mr Q := tw_x_bipush td_141_22 (by decide)
theorem td_141_24 : decode (tw_cd 141) 24 = .ok (.if_icmp .eq 45, 3) := by decide +kernel
theorem tz_141_24 : tw_E sc d 141 24 [x0, x1] (.int w :: .int v :: st) g mi mr Q = if v = w then tw_E sc d 141 69 [x0, x1] st g mi mr Q else tw_E sc d 141 27 [x0, x1] st g mi mr Q := tw_x_ic_eq td_141_24 (by decide)
theorem td_141_27 : decode (tw_cd 141) 27 = .ok (.aload_n 0, 1) := by decide +kernel
theorem tz_141_27 : tw_E sc d 141 27 [some (.ref a), x1] st g mi mr Q = tw_E sc d 141 28 [some (.ref a), x1] (.ref a :: st) g mi mr Q := tw_x_aload_n td_141_27 rfl
theorem td_141_28 : decode (tw_cd 141) 28 = .ok (.aload_n 0, 1) := by decide +kernel
theorem tz_141_28 : tw_E sc d 141 28 [some (.ref a), x1] st g mi mr Q = tw_E sc d 141 29 [some (.ref a), x1] (.ref a :: st) g mi mr Q := tw_x_aload_n td_141_28 rfl
theorem td_141_29 : decode (tw_cd 141) 29 = .ok (.getfield 132, 3) := by decide +kernel
theorem tz_141_29 : tw_E sc d 141 29 [x0, x1] (.ref a :: st) g mi mr Q = (tw_kd g a = 10 ∧ tw_E sc d 141 32 [x0, x1] (.int (mi a 39) :: st) g mi mr Q) := tw_x_geti td_141_29 to_141 tf_10_132 (trf_10_39)
theorem td_141_32 : decode (tw_cd 141) 32 = .ok (.bipush (-9), 2) := by decide +kernel
theorem tz_141_32 : tw_E sc d 141 32 [x0, x1] st g mi mr Q = tw_E sc d 141 34 [x0, x1] (.int (-9) :: st) g mi mr Q := tw_x_bipush td_141_32 (by decide)
theorem td_141_34 : decode (tw_cd 141) 34 = .ok (.if_icmp .eq 7, 3) := by decide +kernel
theorem tz_141_34 : tw_E sc d 141 34 [x0, x1] (.int w :: .int v :: st) g mi mr Q = if v = w then tw_E sc d 141 41 [x0, x1] st g mi mr Q else tw_E sc d 141 37 [x0, x1] st g mi mr Q := tw_x_ic_eq td_141_34 (by decide)
theorem td_141_37 : decode (tw_cd 141) 37 = .ok (.iconst 1, 1) := by decide +kernel
theorem tz_141_37 : tw_E sc d 141 37 [x0, x1] st g mi mr Q = tw_E sc d 141 38 [x0, x1] (.int 1 :: st) g mi mr Q := tw_x_iconst td_141_37 (by decide)
theorem td_141_38 : decode (tw_cd 141) 38 = .ok (.goto 4, 3) := by decide +kernel
theorem tz_141_38 : tw_E sc d 141 38 [x0, x1] st g mi mr Q = tw_E sc d 141 42 [x0, x1] st g mi mr Q := tw_x_goto td_141_38 (by decide)
theorem td_141_41 : decode (tw_cd 141) 41 = .ok (.iconst 2, 1) := by decide +kernel
theorem tz_141_41 : tw_E sc d 141 41 [x0, x1] st g mi mr Q = tw_E sc d 141 42 [x0, x1] (.int 2 :: st) g mi mr Q := tw_x_iconst td_141_41 (by decide)
theorem td_141_42 : decode (tw_cd 141) 42 = .ok (.putfield 173, 3) := by decide +kernel
theorem tz_141_42 : tw_E sc d 141 42 [x0, x1] (.int v :: .ref a :: st) g mi mr Q = (tw_kd g a = 10 ∧ tw_E sc d 141 45 [x0, x1] st g (tw_st mi a (tw_st (mi a) 3 v)) mr Q) := tw_x_puti td_141_42 to_141 tf_10_173 rfl rfl
theorem td_141_45 : decode (tw_cd 141) 45 = .ok (.bipush (-100), 2) := by decide +kernel
theorem tz_141_45 : tw_E sc d 141 45 [x0, x1] st g mi mr Q = tw_E sc d 141 47 [x0, x1] (.int (-100) :: st) g mi mr Q := tw_x_bipush td_141_45 (by decide)
theorem td_141_47 : decode (tw_cd 141) 47 = .ok (.aload_n 0, 1) := by decide +kernel
theorem tz_141_47 : tw_E sc d 141 47 [some (.ref a), x1] st g mi mr Q = tw_E sc d 141 48 [some (.ref a), x1] (.ref a :: st) g mi mr Q := tw_x_aload_n td_141_47 rfl
theorem td_141_48 : decode (tw_cd 141) 48 = .ok (.getfield 132, 3) := by decide +kernel
theorem tz_141_48 : tw_E sc d 141 48 [x0, x1] (.ref a :: st) g mi mr Q = (tw_kd g a = 10 ∧ tw_E sc d 141 51 [x0, x1] (.int (mi a 39) :: st) g mi mr Q) := tw_x_geti td_141_48 to_141 tf_10_132 (trf_10_39)
theorem td_141_51 : decode (tw_cd 141) 51 = .ok (.bipush (-9), 2) := by decide +kernel
theorem tz_141_51 : tw_E sc d 141 51 [x0, x1] st g mi mr Q = tw_E sc d 141 53 [x0, x1] (.int (-9) :: st) g mi mr Q := tw_x_bipush td_141_51 (by decide)
theorem td_141_53 : decode (tw_cd 141) 53 = .ok (.if_icmp .eq 10, 3) := by decide +kernel
theorem tz_141_53 : tw_E sc d 141 53 [x0, x1] (.int w :: .int v :: st) g mi mr Q = if v = w then tw_E sc d 141 63 [x0, x1] st g mi mr Q else tw_E sc d 141 56 [x0, x1] st g mi mr Q := tw_x_ic_eq td_141_53 (by decide)
theorem td_141_56 : decode (tw_cd 141) 56 = .ok (.aload_n 0, 1) := by decide +kernel
theorem tz_141_56 : tw_E sc d 141 56 [some (.ref a), x1] st g mi mr Q = tw_E sc d 141 57 [some (.ref a), x1] (.ref a :: st) g mi mr Q := tw_x_aload_n td_141_56 rfl
theorem td_141_57 : decode (tw_cd 141) 57 = .ok (.getfield 132, 3) := by decide +kernel
theorem tz_141_57 : tw_E sc d 141 57 [x0, x1] (.ref a :: st) g mi mr Q = (tw_kd g a = 10 ∧ tw_E sc d 141 60 [x0, x1] (.int (mi a 39) :: st) g mi mr Q) := tw_x_geti td_141_57 to_141 tf_10_132 (trf_10_39)
theorem td_141_60 : decode (tw_cd 141) 60 = .ok (.goto 7, 3) := by decide +kernel
theorem tz_141_60 : tw_E sc d 141 60 [x0, x1] st g mi mr Q = tw_E sc d 141 67 [x0, x1] st g mi mr Q := tw_x_goto td_141_60 (by decide)
theorem td_141_63 : decode (tw_cd 141) 63 = .ok (.aload_n 0, 1) := by decide +kernel
theorem tz_141_63 : tw_E sc d 141 63 [some (.ref a), x1] st g mi mr Q = tw_E sc d 141 64 [some (.ref a), x1] (.ref a :: st) g mi mr Q := tw_x_aload_n td_141_63 rfl
theorem td_141_64 : decode (tw_cd 141) 64 = .ok (.getfield 155, 3) := by decide +kernel
theorem tz_141_64 : tw_E sc d 141 64 [x0, x1] (.ref a :: st) g mi mr Q = (tw_kd g a = 10 ∧ tw_E sc d 141 67 [x0, x1] (.int (mi a 40) :: st) g mi mr Q) := tw_x_geti td_141_64 to_141 tf_10_155 (trf_10_40)
theorem td_141_67 : decode (tw_cd 141) 67 = .ok (.isub, 1) := by decide +kernel
theorem tz_141_67 : tw_E sc d 141 67 [x0, x1] (.int w :: .int v :: st) g mi mr Q = tw_E sc d 141 68 [x0, x1] (.int (v - w) :: st) g mi mr Q := tw_x_isub td_141_67
theorem td_141_68 : decode (tw_cd 141) 68 = .ok (.ireturn, 1) := by decide +kernel
theorem tz_141_68 : tw_E sc d 141 68 [x0, x1] ([.int v]) g mi mr Q = Q (some (.int v)) g mi mr := tw_x_iret td_141_68 tr_141
theorem td_141_69 : decode (tw_cd 141) 69 = .ok (.aload_n 0, 1) := by decide +kernel
theorem tz_141_69 : tw_E sc d 141 69 [some (.ref a), x1] st g mi mr Q = tw_E sc d 141 70 [some (.ref a), x1] (.ref a :: st) g mi mr Q := tw_x_aload_n td_141_69 rfl
theorem td_141_70 : decode (tw_cd 141) 70 = .ok (.aload_n 0, 1) := by decide +kernel
theorem tz_141_70 : tw_E sc d 141 70 [some (.ref a), x1] st g mi mr Q = tw_E sc d 141 71 [some (.ref a), x1] (.ref a :: st) g mi mr Q := tw_x_aload_n td_141_70 rfl
theorem td_141_71 : decode (tw_cd 141) 71 = .ok (.getfield 123, 3) := by decide +kernel
theorem tz_141_71 : tw_E sc d 141 71 [x0, x1] (.ref a :: st) g mi mr Q = (tw_kd g a = 10 ∧ tw_E sc d 141 74 [x0, x1] (.int (mi a 11) :: st) g mi mr Q) := tw_x_geti td_141_71 to_141 tf_10_123 (trf_10_11)
theorem td_141_74 : decode (tw_cd 141) 74 = .ok (.putfield 176, 3) := by decide +kernel
theorem tz_141_74 : tw_E sc d 141 74 [x0, x1] (.int v :: .ref a :: st) g mi mr Q = (tw_kd g a = 10 ∧ tw_E sc d 141 77 [x0, x1] st g (tw_st mi a (tw_st (mi a) 5 v)) mr Q) := tw_x_puti td_141_74 to_141 tf_10_176 rfl rfl
theorem td_141_77 : decode (tw_cd 141) 77 = .ok (.iconst 0, 1) := by decide +kernel
theorem tz_141_77 : tw_E sc d 141 77 [x0, x1] st g mi mr Q = tw_E sc d 141 78 [x0, x1] (.int 0 :: st) g mi mr Q := tw_x_iconst td_141_77 (by decide)
theorem td_141_78 : decode (tw_cd 141) 78 = .ok (.istore_n 1, 1) := by decide +kernel
theorem tz_141_78 : tw_E sc d 141 78 [x0, x1] (.int v :: st) g mi mr Q = tw_E sc d 141 79 [x0, some (.int v)] st g mi mr Q := tw_x_istore_n td_141_78 tp_141 rfl
theorem td_141_79 : decode (tw_cd 141) 79 = .ok (.iload_n 1, 1) := by decide +kernel
theorem tz_141_79 : tw_E sc d 141 79 [x0, some (.int v)] st g mi mr Q = tw_E sc d 141 80 [x0, some (.int v)] (.int v :: st) g mi mr Q := tw_x_iload_n td_141_79 rfl
theorem td_141_80 : decode (tw_cd 141) 80 = .ok (.aload_n 0, 1) := by decide +kernel
theorem tz_141_80 : tw_E sc d 141 80 [some (.ref a), x1] st g mi mr Q = tw_E sc d 141 81 [some (.ref a), x1] (.ref a :: st) g mi mr Q := tw_x_aload_n td_141_80 rfl
theorem td_141_81 : decode (tw_cd 141) 81 = .ok (.getfield 176, 3) := by decide +kernel
theorem tz_141_81 : tw_E sc d 141 81 [x0, x1] (.ref a :: st) g mi mr Q = (tw_kd g a = 10 ∧ tw_E sc d 141 84 [x0, x1] (.int (mi a 5) :: st) g mi mr Q) := tw_x_geti td_141_81 to_141 tf_10_176 (trf_10_5)
theorem td_141_84 : decode (tw_cd 141) 84 = .ok (.if_icmp .ge 69, 3) := by decide +kernel
theorem tz_141_84 : tw_E sc d 141 84 [x0, x1] (.int w :: .int v :: st) g mi mr Q = if w ≤ v then tw_E sc d 141 153 [x0, x1] st g mi mr Q else tw_E sc d 141 87 [x0, x1] st g mi mr Q := tw_x_ic_ge td_141_84 (by decide)
theorem td_141_87 : decode (tw_cd 141) 87 = .ok (.aload_n 0, 1) := by decide +kernel
theorem tz_141_87 : tw_E sc d 141 87 [some (.ref a), x1] st g mi mr Q = tw_E sc d 141 88 [some (.ref a), x1] (.ref a :: st) g mi mr Q := tw_x_aload_n td_141_87 rfl
theorem td_141_88 : decode (tw_cd 141) 88 = .ok (.getfield 13, 3) := by decide +kernel
theorem tz_141_88 : tw_E sc d 141 88 [x0, x1] (.ref a :: st) g mi mr Q = (tw_kd g a = 10 ∧ tw_E sc d 141 91 [x0, x1] (va_rf (mr a 6) :: st) g mi mr Q) := tw_x_getr td_141_88 to_141 tf_10_13 (trf_10_6)
theorem td_141_91 : decode (tw_cd 141) 91 = .ok (.iload_n 1, 1) := by decide +kernel
theorem tz_141_91 : tw_E sc d 141 91 [x0, some (.int v)] st g mi mr Q = tw_E sc d 141 92 [x0, some (.int v)] (.int v :: st) g mi mr Q := tw_x_iload_n td_141_91 rfl
theorem td_141_92 : decode (tw_cd 141) 92 = .ok (.aload_n 0, 1) := by decide +kernel
theorem tz_141_92 : tw_E sc d 141 92 [some (.ref a), x1] st g mi mr Q = tw_E sc d 141 93 [some (.ref a), x1] (.ref a :: st) g mi mr Q := tw_x_aload_n td_141_92 rfl
theorem td_141_93 : decode (tw_cd 141) 93 = .ok (.getfield 28, 3) := by decide +kernel
theorem tz_141_93 : tw_E sc d 141 93 [x0, x1] (.ref a :: st) g mi mr Q = (tw_kd g a = 10 ∧ tw_E sc d 141 96 [x0, x1] (va_rf (mr a 12) :: st) g mi mr Q) := tw_x_getr td_141_93 to_141 tf_10_28 (trf_10_12)
theorem td_141_96 : decode (tw_cd 141) 96 = .ok (.iload_n 1, 1) := by decide +kernel
theorem tz_141_96 : tw_E sc d 141 96 [x0, some (.int v)] st g mi mr Q = tw_E sc d 141 97 [x0, some (.int v)] (.int v :: st) g mi mr Q := tw_x_iload_n td_141_96 rfl
theorem td_141_97 : decode (tw_cd 141) 97 = .ok (.iaload, 1) := by decide +kernel
theorem tz_141_97 : tw_E sc d 141 97 [x0, x1] (.int v :: .ref a :: st) g mi mr Q = ((tw_kd g a = 20 ∧ vp_in v (tw_ln g a)) ∧ tw_E sc d 141 98 [x0, x1] (.int (mi a v.toNatClampNeg) :: st) g mi mr Q) := tw_x_iald td_141_97
theorem td_141_98 : decode (tw_cd 141) 98 = .ok (.iastore, 1) := by decide +kernel
theorem tz_141_98 : tw_E sc d 141 98 [x0, x1] (.int w :: .int v :: .ref a :: st) g mi mr Q = ((tw_kd g a = 20 ∧ vp_in v (tw_ln g a)) ∧ tw_E sc d 141 99 [x0, x1] st g (tw_st mi a (tw_st (mi a) v.toNatClampNeg w)) mr Q) := tw_x_iast td_141_98
theorem td_141_99 : decode (tw_cd 141) 99 = .ok (.aload_n 0, 1) := by decide +kernel
theorem tz_141_99 : tw_E sc d 141 99 [some (.ref a), x1] st g mi mr Q = tw_E sc d 141 100 [some (.ref a), x1] (.ref a :: st) g mi mr Q := tw_x_aload_n td_141_99 rfl
theorem td_141_100 : decode (tw_cd 141) 100 = .ok (.getfield 16, 3) := by decide +kernel
theorem tz_141_100 : tw_E sc d 141 100 [x0, x1] (.ref a :: st) g mi mr Q = (tw_kd g a = 10 ∧ tw_E sc d 141 103 [x0, x1] (va_rf (mr a 7) :: st) g mi mr Q) := tw_x_getr td_141_100 to_141 tf_10_16 (trf_10_7)
theorem td_141_103 : decode (tw_cd 141) 103 = .ok (.iload_n 1, 1) := by decide +kernel
theorem tz_141_103 : tw_E sc d 141 103 [x0, some (.int v)] st g mi mr Q = tw_E sc d 141 104 [x0, some (.int v)] (.int v :: st) g mi mr Q := tw_x_iload_n td_141_103 rfl
theorem td_141_104 : decode (tw_cd 141) 104 = .ok (.aload_n 0, 1) := by decide +kernel
theorem tz_141_104 : tw_E sc d 141 104 [some (.ref a), x1] st g mi mr Q = tw_E sc d 141 105 [some (.ref a), x1] (.ref a :: st) g mi mr Q := tw_x_aload_n td_141_104 rfl
theorem td_141_105 : decode (tw_cd 141) 105 = .ok (.getfield 31, 3) := by decide +kernel
theorem tz_141_105 : tw_E sc d 141 105 [x0, x1] (.ref a :: st) g mi mr Q = (tw_kd g a = 10 ∧ tw_E sc d 141 108 [x0, x1] (va_rf (mr a 13) :: st) g mi mr Q) := tw_x_getr td_141_105 to_141 tf_10_31 (trf_10_13)
theorem td_141_108 : decode (tw_cd 141) 108 = .ok (.iload_n 1, 1) := by decide +kernel
theorem tz_141_108 : tw_E sc d 141 108 [x0, some (.int v)] st g mi mr Q = tw_E sc d 141 109 [x0, some (.int v)] (.int v :: st) g mi mr Q := tw_x_iload_n td_141_108 rfl
theorem td_141_109 : decode (tw_cd 141) 109 = .ok (.iaload, 1) := by decide +kernel
theorem tz_141_109 : tw_E sc d 141 109 [x0, x1] (.int v :: .ref a :: st) g mi mr Q = ((tw_kd g a = 20 ∧ vp_in v (tw_ln g a)) ∧ tw_E sc d 141 110 [x0, x1] (.int (mi a v.toNatClampNeg) :: st) g mi mr Q) := tw_x_iald td_141_109
theorem td_141_110 : decode (tw_cd 141) 110 = .ok (.iastore, 1) := by decide +kernel
theorem tz_141_110 : tw_E sc d 141 110 [x0, x1] (.int w :: .int v :: .ref a :: st) g mi mr Q = ((tw_kd g a = 20 ∧ vp_in v (tw_ln g a)) ∧ tw_E sc d 141 111 [x0, x1] st g (tw_st mi a (tw_st (mi a) v.toNatClampNeg w)) mr Q) := tw_x_iast td_141_110
theorem td_141_111 : decode (tw_cd 141) 111 = .ok (.aload_n 0, 1) := by decide +kernel
theorem tz_141_111 : tw_E sc d 141 111 [some (.ref a), x1] st g mi mr Q = tw_E sc d 141 112 [some (.ref a), x1] (.ref a :: st) g mi mr Q := tw_x_aload_n td_141_111 rfl
theorem td_141_112 : decode (tw_cd 141) 112 = .ok (.getfield 19, 3) := by decide +kernel
theorem tz_141_112 : tw_E sc d 141 112 [x0, x1] (.ref a :: st) g mi mr Q = (tw_kd g a = 10 ∧ tw_E sc d 141 115 [x0, x1] (va_rf (mr a 8) :: st) g mi mr Q) := tw_x_getr td_141_112 to_141 tf_10_19 (trf_10_8)
theorem td_141_115 : decode (tw_cd 141) 115 = .ok (.iload_n 1, 1) := by decide +kernel
theorem tz_141_115 : tw_E sc d 141 115 [x0, some (.int v)] st g mi mr Q = tw_E sc d 141 116 [x0, some (.int v)] (.int v :: st) g mi mr Q := tw_x_iload_n td_141_115 rfl
theorem td_141_116 : decode (tw_cd 141) 116 = .ok (.aload_n 0, 1) := by decide +kernel
theorem tz_141_116 : tw_E sc d 141 116 [some (.ref a), x1] st g mi mr Q = tw_E sc d 141 117 [some (.ref a), x1] (.ref a :: st) g mi mr Q := tw_x_aload_n td_141_116 rfl
theorem td_141_117 : decode (tw_cd 141) 117 = .ok (.getfield 34, 3) := by decide +kernel
theorem tz_141_117 : tw_E sc d 141 117 [x0, x1] (.ref a :: st) g mi mr Q = (tw_kd g a = 10 ∧ tw_E sc d 141 120 [x0, x1] (va_rf (mr a 14) :: st) g mi mr Q) := tw_x_getr td_141_117 to_141 tf_10_34 (trf_10_14)
theorem td_141_120 : decode (tw_cd 141) 120 = .ok (.iload_n 1, 1) := by decide +kernel
theorem tz_141_120 : tw_E sc d 141 120 [x0, some (.int v)] st g mi mr Q = tw_E sc d 141 121 [x0, some (.int v)] (.int v :: st) g mi mr Q := tw_x_iload_n td_141_120 rfl
theorem td_141_121 : decode (tw_cd 141) 121 = .ok (.iaload, 1) := by decide +kernel
theorem tz_141_121 : tw_E sc d 141 121 [x0, x1] (.int v :: .ref a :: st) g mi mr Q = ((tw_kd g a = 20 ∧ vp_in v (tw_ln g a)) ∧ tw_E sc d 141 122 [x0, x1] (.int (mi a v.toNatClampNeg) :: st) g mi mr Q) := tw_x_iald td_141_121
theorem td_141_122 : decode (tw_cd 141) 122 = .ok (.iastore, 1) := by decide +kernel
theorem tz_141_122 : tw_E sc d 141 122 [x0, x1] (.int w :: .int v :: .ref a :: st) g mi mr Q = ((tw_kd g a = 20 ∧ vp_in v (tw_ln g a)) ∧ tw_E sc d 141 123 [x0, x1] st g (tw_st mi a (tw_st (mi a) v.toNatClampNeg w)) mr Q) := tw_x_iast td_141_122
theorem td_141_123 : decode (tw_cd 141) 123 = .ok (.aload_n 0, 1) := by decide +kernel
theorem tz_141_123 : tw_E sc d 141 123 [some (.ref a), x1] st g mi mr Q = tw_E sc d 141 124 [some (.ref a), x1] (.ref a :: st) g mi mr Q := tw_x_aload_n td_141_123 rfl
theorem td_141_124 : decode (tw_cd 141) 124 = .ok (.getfield 22, 3) := by decide +kernel
theorem tz_141_124 : tw_E sc d 141 124 [x0, x1] (.ref a :: st) g mi mr Q = (tw_kd g a = 10 ∧ tw_E sc d 141 127 [x0, x1] (va_rf (mr a 9) :: st) g mi mr Q) := tw_x_getr td_141_124 to_141 tf_10_22 (trf_10_9)
theorem td_141_127 : decode (tw_cd 141) 127 = .ok (.iload_n 1, 1) := by decide +kernel
theorem tz_141_127 : tw_E sc d 141 127 [x0, some (.int v)] st g mi mr Q = tw_E sc d 141 128 [x0, some (.int v)] (.int v :: st) g mi mr Q := tw_x_iload_n td_141_127 rfl
theorem td_141_128 : decode (tw_cd 141) 128 = .ok (.aload_n 0, 1) := by decide +kernel
theorem tz_141_128 : tw_E sc d 141 128 [some (.ref a), x1] st g mi mr Q = tw_E sc d 141 129 [some (.ref a), x1] (.ref a :: st) g mi mr Q := tw_x_aload_n td_141_128 rfl
theorem td_141_129 : decode (tw_cd 141) 129 = .ok (.getfield 37, 3) := by decide +kernel
theorem tz_141_129 : tw_E sc d 141 129 [x0, x1] (.ref a :: st) g mi mr Q = (tw_kd g a = 10 ∧ tw_E sc d 141 132 [x0, x1] (va_rf (mr a 15) :: st) g mi mr Q) := tw_x_getr td_141_129 to_141 tf_10_37 (trf_10_15)
theorem td_141_132 : decode (tw_cd 141) 132 = .ok (.iload_n 1, 1) := by decide +kernel
theorem tz_141_132 : tw_E sc d 141 132 [x0, some (.int v)] st g mi mr Q = tw_E sc d 141 133 [x0, some (.int v)] (.int v :: st) g mi mr Q := tw_x_iload_n td_141_132 rfl
theorem td_141_133 : decode (tw_cd 141) 133 = .ok (.iaload, 1) := by decide +kernel
theorem tz_141_133 : tw_E sc d 141 133 [x0, x1] (.int v :: .ref a :: st) g mi mr Q = ((tw_kd g a = 20 ∧ vp_in v (tw_ln g a)) ∧ tw_E sc d 141 134 [x0, x1] (.int (mi a v.toNatClampNeg) :: st) g mi mr Q) := tw_x_iald td_141_133
theorem td_141_134 : decode (tw_cd 141) 134 = .ok (.iastore, 1) := by decide +kernel
theorem tz_141_134 : tw_E sc d 141 134 [x0, x1] (.int w :: .int v :: .ref a :: st) g mi mr Q = ((tw_kd g a = 20 ∧ vp_in v (tw_ln g a)) ∧ tw_E sc d 141 135 [x0, x1] st g (tw_st mi a (tw_st (mi a) v.toNatClampNeg w)) mr Q) := tw_x_iast td_141_134
theorem td_141_135 : decode (tw_cd 141) 135 = .ok (.aload_n 0, 1) := by decide +kernel
theorem tz_141_135 : tw_E sc d 141 135 [some (.ref a), x1] st g mi mr Q = tw_E sc d 141 136 [some (.ref a), x1] (.ref a :: st) g mi mr Q := tw_x_aload_n td_141_135 rfl
theorem td_141_136 : decode (tw_cd 141) 136 = .ok (.getfield 25, 3) := by decide +kernel
theorem tz_141_136 : tw_E sc d 141 136 [x0, x1] (.ref a :: st) g mi mr Q = (tw_kd g a = 10 ∧ tw_E sc d 141 139 [x0, x1] (va_rf (mr a 10) :: st) g mi mr Q) := tw_x_getr td_141_136 to_141 tf_10_25 (trf_10_10)
theorem td_141_139 : decode (tw_cd 141) 139 = .ok (.iload_n 1, 1) := by decide +kernel
theorem tz_141_139 : tw_E sc d 141 139 [x0, some (.int v)] st g mi mr Q = tw_E sc d 141 140 [x0, some (.int v)] (.int v :: st) g mi mr Q := tw_x_iload_n td_141_139 rfl
theorem td_141_140 : decode (tw_cd 141) 140 = .ok (.aload_n 0, 1) := by decide +kernel
theorem tz_141_140 : tw_E sc d 141 140 [some (.ref a), x1] st g mi mr Q = tw_E sc d 141 141 [some (.ref a), x1] (.ref a :: st) g mi mr Q := tw_x_aload_n td_141_140 rfl
theorem td_141_141 : decode (tw_cd 141) 141 = .ok (.getfield 40, 3) := by decide +kernel
theorem tz_141_141 : tw_E sc d 141 141 [x0, x1] (.ref a :: st) g mi mr Q = (tw_kd g a = 10 ∧ tw_E sc d 141 144 [x0, x1] (va_rf (mr a 16) :: st) g mi mr Q) := tw_x_getr td_141_141 to_141 tf_10_40 (trf_10_16)
theorem td_141_144 : decode (tw_cd 141) 144 = .ok (.iload_n 1, 1) := by decide +kernel
theorem tz_141_144 : tw_E sc d 141 144 [x0, some (.int v)] st g mi mr Q = tw_E sc d 141 145 [x0, some (.int v)] (.int v :: st) g mi mr Q := tw_x_iload_n td_141_144 rfl
theorem td_141_145 : decode (tw_cd 141) 145 = .ok (.iaload, 1) := by decide +kernel
theorem tz_141_145 : tw_E sc d 141 145 [x0, x1] (.int v :: .ref a :: st) g mi mr Q = ((tw_kd g a = 20 ∧ vp_in v (tw_ln g a)) ∧ tw_E sc d 141 146 [x0, x1] (.int (mi a v.toNatClampNeg) :: st) g mi mr Q) := tw_x_iald td_141_145
theorem td_141_146 : decode (tw_cd 141) 146 = .ok (.iastore, 1) := by decide +kernel
theorem tz_141_146 : tw_E sc d 141 146 [x0, x1] (.int w :: .int v :: .ref a :: st) g mi mr Q = ((tw_kd g a = 20 ∧ vp_in v (tw_ln g a)) ∧ tw_E sc d 141 147 [x0, x1] st g (tw_st mi a (tw_st (mi a) v.toNatClampNeg w)) mr Q) := tw_x_iast td_141_146
theorem td_141_147 : decode (tw_cd 141) 147 = .ok (.iinc 1 1, 3) := by decide +kernel
theorem tz_141_147 : tw_E sc d 141 147 [x0, some (.int v)] st g mi mr Q = tw_E sc d 141 150 [x0, some (.int (v + 1))] st g mi mr Q := tw_x_iinc td_141_147 rfl (by first | rfl | (exact congrArg (v + ·) (by decide))) tp_141 rfl
theorem td_141_150 : decode (tw_cd 141) 150 = .ok (.goto (-71), 3) := by decide +kernel
theorem tz_141_150 : tw_E sc d 141 150 [x0, x1] st g mi mr Q = tw_E sc d 141 79 [x0, x1] st g mi mr Q := tw_x_goto td_141_150 (by decide)
theorem td_141_153 : decode (tw_cd 141) 153 = .ok (.aload_n 0, 1) := by decide +kernel
theorem tz_141_153 : tw_E sc d 141 153 [some (.ref a), x1] st g mi mr Q = tw_E sc d 141 154 [some (.ref a), x1] (.ref a :: st) g mi mr Q := tw_x_aload_n td_141_153 rfl
theorem td_141_154 : decode (tw_cd 141) 154 = .ok (.iconst 0, 1) := by decide +kernel
theorem tz_141_154 : tw_E sc d 141 154 [x0, x1] st g mi mr Q = tw_E sc d 141 155 [x0, x1] (.int 0 :: st) g mi mr Q := tw_x_iconst td_141_154 (by decide)
theorem td_141_155 : decode (tw_cd 141) 155 = .ok (.putfield 173, 3) := by decide +kernel
theorem tz_141_155 : tw_E sc d 141 155 [x0, x1] (.int v :: .ref a :: st) g mi mr Q = (tw_kd g a = 10 ∧ tw_E sc d 141 158 [x0, x1] st g (tw_st mi a (tw_st (mi a) 3 v)) mr Q) := tw_x_puti td_141_155 to_141 tf_10_173 rfl rfl
theorem td_141_158 : decode (tw_cd 141) 158 = .ok (.aload_n 0, 1) := by decide +kernel
theorem tz_141_158 : tw_E sc d 141 158 [some (.ref a), x1] st g mi mr Q = tw_E sc d 141 159 [some (.ref a), x1] (.ref a :: st) g mi mr Q := tw_x_aload_n td_141_158 rfl
theorem td_141_159 : decode (tw_cd 141) 159 = .ok (.iconst 0, 1) := by decide +kernel
theorem tz_141_159 : tw_E sc d 141 159 [x0, x1] st g mi mr Q = tw_E sc d 141 160 [x0, x1] (.int 0 :: st) g mi mr Q := tw_x_iconst td_141_159 (by decide)
theorem td_141_160 : decode (tw_cd 141) 160 = .ok (.putfield 89, 3) := by decide +kernel
theorem tz_141_160 : tw_E sc d 141 160 [x0, x1] (.int v :: .ref a :: st) g mi mr Q = (tw_kd g a = 10 ∧ tw_E sc d 141 163 [x0, x1] st g (tw_st mi a (tw_st (mi a) 2 v)) mr Q) := tw_x_puti td_141_160 to_141 tf_10_89 rfl rfl
theorem td_141_163 : decode (tw_cd 141) 163 = .ok (.aload_n 0, 1) := by decide +kernel
theorem tz_141_163 : tw_E sc d 141 163 [some (.ref a), x1] st g mi mr Q = tw_E sc d 141 164 [some (.ref a), x1] (.ref a :: st) g mi mr Q := tw_x_aload_n td_141_163 rfl
theorem td_141_164 : decode (tw_cd 141) 164 = .ok (.iconst 1, 1) := by decide +kernel
theorem tz_141_164 : tw_E sc d 141 164 [x0, x1] st g mi mr Q = tw_E sc d 141 165 [x0, x1] (.int 1 :: st) g mi mr Q := tw_x_iconst td_141_164 (by decide)
theorem td_141_165 : decode (tw_cd 141) 165 = .ok (.putfield 179, 3) := by decide +kernel
theorem tz_141_165 : tw_E sc d 141 165 [x0, x1] (.int v :: .ref a :: st) g mi mr Q = ((tw_kd g a = 10 ∧ (v = 0 ∨ v = 1)) ∧ tw_E sc d 141 168 [x0, x1] st g (tw_st mi a (tw_st (mi a) 4 v)) mr Q) := tw_x_putz td_141_165 to_141 tf_10_179 rfl rfl
theorem td_141_168 : decode (tw_cd 141) 168 = .ok (.aload_n 0, 1) := by decide +kernel
theorem tz_141_168 : tw_E sc d 141 168 [some (.ref a), x1] st g mi mr Q = tw_E sc d 141 169 [some (.ref a), x1] (.ref a :: st) g mi mr Q := tw_x_aload_n td_141_168 rfl
theorem td_141_169 : decode (tw_cd 141) 169 = .ok (.invokevirtual 183, 3) := by decide +kernel
theorem tz_141_169 : tw_E sc (d + 1) 141 169 [x0, x1] ([.ref a]) g mi mr Q = (tw_kd g a = 10 ∧ tw_E sc d 142 0 [some (.ref a), none] [] g mi mr (tw_K sc (d + 1) 141 172 [x0, x1] [] Q)) := tw_x_cv (as := []) (r := []) td_141_169 to_141 tc_10_183 to_142 rfl rfl rfl rfl
theorem td_141_172 : decode (tw_cd 141) 172 = .ok (.aload_n 0, 1) := by decide +kernel
theorem tz_141_172 : tw_E sc d 141 172 [some (.ref a), x1] st g mi mr Q = tw_E sc d 141 173 [some (.ref a), x1] (.ref a :: st) g mi mr Q := tw_x_aload_n td_141_172 rfl
theorem td_141_173 : decode (tw_cd 141) 173 = .ok (.getfield 176, 3) := by decide +kernel
theorem tz_141_173 : tw_E sc d 141 173 [x0, x1] (.ref a :: st) g mi mr Q = (tw_kd g a = 10 ∧ tw_E sc d 141 176 [x0, x1] (.int (mi a 5) :: st) g mi mr Q) := tw_x_geti td_141_173 to_141 tf_10_176 (trf_10_5)
theorem td_141_176 : decode (tw_cd 141) 176 = .ok (.ireturn, 1) := by decide +kernel
theorem tz_141_176 : tw_E sc d 141 176 [x0, x1] ([.int v]) g mi mr Q = Q (some (.int v)) g mi mr := tw_x_iret td_141_176 tr_141
end tz_141
-- 142: Mo_begin
section tz_142
variable {sc : Nat × (Nat → Int32)} {d : Nat} {x0 x1 : Option Value} {st : List Value} {g : tw_G} {mi : tw_I} {mr : tw_Q} {Q : Option Value → tw_G → tw_I → tw_Q → Prop} {v w u : Int32} {a b : Nat} {j h : Int64} {s1 s2 s3 s4 : Value}
theorem td_142_0 : decode (tw_cd 142) 0 = .ok (.aload_n 0, 1) := by decide +kernel
theorem tz_142_0 : tw_E sc d 142 0 [some (.ref a), x1] st g mi mr Q = tw_E sc d 142 1 [some (.ref a), x1] (.ref a :: st) g mi mr Q := tw_x_aload_n td_142_0 rfl
theorem td_142_1 : decode (tw_cd 142) 1 = .ok (.iconst 0, 1) := by decide +kernel
theorem tz_142_1 : tw_E sc d 142 1 [x0, x1] st g mi mr Q = tw_E sc d 142 2 [x0, x1] (.int 0 :: st) g mi mr Q := tw_x_iconst td_142_1 (by decide)
theorem td_142_2 : decode (tw_cd 142) 2 = .ok (.putfield 185, 3) := by decide +kernel
theorem tz_142_2 : tw_E sc d 142 2 [x0, x1] (.int v :: .ref a :: st) g mi mr Q = (tw_kd g a = 10 ∧ tw_E sc d 142 5 [x0, x1] st g (tw_st mi a (tw_st (mi a) 20 v)) mr Q) := tw_x_puti td_142_2 to_142 tf_10_185 rfl rfl
theorem td_142_5 : decode (tw_cd 142) 5 = .ok (.iconst 0, 1) := by decide +kernel
theorem tz_142_5 : tw_E sc d 142 5 [x0, x1] st g mi mr Q = tw_E sc d 142 6 [x0, x1] (.int 0 :: st) g mi mr Q := tw_x_iconst td_142_5 (by decide)
theorem td_142_6 : decode (tw_cd 142) 6 = .ok (.istore_n 1, 1) := by decide +kernel
theorem tz_142_6 : tw_E sc d 142 6 [x0, x1] (.int v :: st) g mi mr Q = tw_E sc d 142 7 [x0, some (.int v)] st g mi mr Q := tw_x_istore_n td_142_6 tp_142 rfl
theorem td_142_7 : decode (tw_cd 142) 7 = .ok (.iload_n 1, 1) := by decide +kernel
theorem tz_142_7 : tw_E sc d 142 7 [x0, some (.int v)] st g mi mr Q = tw_E sc d 142 8 [x0, some (.int v)] (.int v :: st) g mi mr Q := tw_x_iload_n td_142_7 rfl
theorem td_142_8 : decode (tw_cd 142) 8 = .ok (.aload_n 0, 1) := by decide +kernel
theorem tz_142_8 : tw_E sc d 142 8 [some (.ref a), x1] st g mi mr Q = tw_E sc d 142 9 [some (.ref a), x1] (.ref a :: st) g mi mr Q := tw_x_aload_n td_142_8 rfl
theorem td_142_9 : decode (tw_cd 142) 9 = .ok (.getfield 176, 3) := by decide +kernel
theorem tz_142_9 : tw_E sc d 142 9 [x0, x1] (.ref a :: st) g mi mr Q = (tw_kd g a = 10 ∧ tw_E sc d 142 12 [x0, x1] (.int (mi a 5) :: st) g mi mr Q) := tw_x_geti td_142_9 to_142 tf_10_176 (trf_10_5)
theorem td_142_12 : decode (tw_cd 142) 12 = .ok (.if_icmp .ge 31, 3) := by decide +kernel
theorem tz_142_12 : tw_E sc d 142 12 [x0, x1] (.int w :: .int v :: st) g mi mr Q = if w ≤ v then tw_E sc d 142 43 [x0, x1] st g mi mr Q else tw_E sc d 142 15 [x0, x1] st g mi mr Q := tw_x_ic_ge td_142_12 (by decide)
theorem td_142_15 : decode (tw_cd 142) 15 = .ok (.aload_n 0, 1) := by decide +kernel
theorem tz_142_15 : tw_E sc d 142 15 [some (.ref a), x1] st g mi mr Q = tw_E sc d 142 16 [some (.ref a), x1] (.ref a :: st) g mi mr Q := tw_x_aload_n td_142_15 rfl
theorem td_142_16 : decode (tw_cd 142) 16 = .ok (.getfield 43, 3) := by decide +kernel
theorem tz_142_16 : tw_E sc d 142 16 [x0, x1] (.ref a :: st) g mi mr Q = (tw_kd g a = 10 ∧ tw_E sc d 142 19 [x0, x1] (va_rf (mr a 17) :: st) g mi mr Q) := tw_x_getr td_142_16 to_142 tf_10_43 (trf_10_17)
theorem td_142_19 : decode (tw_cd 142) 19 = .ok (.iload_n 1, 1) := by decide +kernel
theorem tz_142_19 : tw_E sc d 142 19 [x0, some (.int v)] st g mi mr Q = tw_E sc d 142 20 [x0, some (.int v)] (.int v :: st) g mi mr Q := tw_x_iload_n td_142_19 rfl
theorem td_142_20 : decode (tw_cd 142) 20 = .ok (.iconst 0, 1) := by decide +kernel
theorem tz_142_20 : tw_E sc d 142 20 [x0, x1] st g mi mr Q = tw_E sc d 142 21 [x0, x1] (.int 0 :: st) g mi mr Q := tw_x_iconst td_142_20 (by decide)
theorem td_142_21 : decode (tw_cd 142) 21 = .ok (.bastore, 1) := by decide +kernel
theorem tz_142_21 : tw_E sc d 142 21 [x0, x1] (.int w :: .int v :: .ref a :: st) g mi mr Q = ((tw_kd g a = 21 ∧ (w = 0 ∨ w = 1) ∧ vp_in v (tw_ln g a)) ∧ tw_E sc d 142 22 [x0, x1] st g (tw_st mi a (tw_st (mi a) v.toNatClampNeg w)) mr Q) := tw_x_zast td_142_21
theorem td_142_22 : decode (tw_cd 142) 22 = .ok (.aload_n 0, 1) := by decide +kernel
theorem tz_142_22 : tw_E sc d 142 22 [some (.ref a), x1] st g mi mr Q = tw_E sc d 142 23 [some (.ref a), x1] (.ref a :: st) g mi mr Q := tw_x_aload_n td_142_22 rfl
theorem td_142_23 : decode (tw_cd 142) 23 = .ok (.getfield 47, 3) := by decide +kernel
theorem tz_142_23 : tw_E sc d 142 23 [x0, x1] (.ref a :: st) g mi mr Q = (tw_kd g a = 10 ∧ tw_E sc d 142 26 [x0, x1] (va_rf (mr a 18) :: st) g mi mr Q) := tw_x_getr td_142_23 to_142 tf_10_47 (trf_10_18)
theorem td_142_26 : decode (tw_cd 142) 26 = .ok (.iload_n 1, 1) := by decide +kernel
theorem tz_142_26 : tw_E sc d 142 26 [x0, some (.int v)] st g mi mr Q = tw_E sc d 142 27 [x0, some (.int v)] (.int v :: st) g mi mr Q := tw_x_iload_n td_142_26 rfl
theorem td_142_27 : decode (tw_cd 142) 27 = .ok (.iconst 0, 1) := by decide +kernel
theorem tz_142_27 : tw_E sc d 142 27 [x0, x1] st g mi mr Q = tw_E sc d 142 28 [x0, x1] (.int 0 :: st) g mi mr Q := tw_x_iconst td_142_27 (by decide)
theorem td_142_28 : decode (tw_cd 142) 28 = .ok (.iastore, 1) := by decide +kernel
theorem tz_142_28 : tw_E sc d 142 28 [x0, x1] (.int w :: .int v :: .ref a :: st) g mi mr Q = ((tw_kd g a = 20 ∧ vp_in v (tw_ln g a)) ∧ tw_E sc d 142 29 [x0, x1] st g (tw_st mi a (tw_st (mi a) v.toNatClampNeg w)) mr Q) := tw_x_iast td_142_28
theorem td_142_29 : decode (tw_cd 142) 29 = .ok (.aload_n 0, 1) := by decide +kernel
theorem tz_142_29 : tw_E sc d 142 29 [some (.ref a), x1] st g mi mr Q = tw_E sc d 142 30 [some (.ref a), x1] (.ref a :: st) g mi mr Q := tw_x_aload_n td_142_29 rfl
theorem td_142_30 : decode (tw_cd 142) 30 = .ok (.getfield 50, 3) := by decide +kernel
theorem tz_142_30 : tw_E sc d 142 30 [x0, x1] (.ref a :: st) g mi mr Q = (tw_kd g a = 10 ∧ tw_E sc d 142 33 [x0, x1] (va_rf (mr a 19) :: st) g mi mr Q) := tw_x_getr td_142_30 to_142 tf_10_50 (trf_10_19)
theorem td_142_33 : decode (tw_cd 142) 33 = .ok (.iload_n 1, 1) := by decide +kernel
theorem tz_142_33 : tw_E sc d 142 33 [x0, some (.int v)] st g mi mr Q = tw_E sc d 142 34 [x0, some (.int v)] (.int v :: st) g mi mr Q := tw_x_iload_n td_142_33 rfl
theorem td_142_34 : decode (tw_cd 142) 34 = .ok (.bipush (-9), 2) := by decide +kernel
theorem tz_142_34 : tw_E sc d 142 34 [x0, x1] st g mi mr Q = tw_E sc d 142 36 [x0, x1] (.int (-9) :: st) g mi mr Q := tw_x_bipush td_142_34 (by decide)
theorem td_142_36 : decode (tw_cd 142) 36 = .ok (.iastore, 1) := by decide +kernel
theorem tz_142_36 : tw_E sc d 142 36 [x0, x1] (.int w :: .int v :: .ref a :: st) g mi mr Q = ((tw_kd g a = 20 ∧ vp_in v (tw_ln g a)) ∧ tw_E sc d 142 37 [x0, x1] st g (tw_st mi a (tw_st (mi a) v.toNatClampNeg w)) mr Q) := tw_x_iast td_142_36
theorem td_142_37 : decode (tw_cd 142) 37 = .ok (.iinc 1 1, 3) := by decide +kernel
theorem tz_142_37 : tw_E sc d 142 37 [x0, some (.int v)] st g mi mr Q = tw_E sc d 142 40 [x0, some (.int (v + 1))] st g mi mr Q := tw_x_iinc td_142_37 rfl (by first | rfl | (exact congrArg (v + ·) (by decide))) tp_142 rfl
theorem td_142_40 : decode (tw_cd 142) 40 = .ok (.goto (-33), 3) := by decide +kernel
theorem tz_142_40 : tw_E sc d 142 40 [x0, x1] st g mi mr Q = tw_E sc d 142 7 [x0, x1] st g mi mr Q := tw_x_goto td_142_40 (by decide)
theorem td_142_43 : decode (tw_cd 142) 43 = .ok (.return_, 1) := by decide +kernel
theorem tz_142_43 : tw_E sc d 142 43 [x0, x1] [] g mi mr Q = Q none g mi mr := tw_x_vret td_142_43 tr_142
end tz_142
-- 143: Mo_fault
section tz_143
variable {sc : Nat × (Nat → Int32)} {d : Nat} {x0 : Option Value} {st : List Value} {g : tw_G} {mi : tw_I} {mr : tw_Q} {Q : Option Value → tw_G → tw_I → tw_Q → Prop} {v w u : Int32} {a b : Nat} {j h : Int64} {s1 s2 s3 s4 : Value}
theorem td_143_0 : decode (tw_cd 143) 0 = .ok (.aload_n 0, 1) := by decide +kernel
theorem tz_143_0 : tw_E sc d 143 0 [some (.ref a)] st g mi mr Q = tw_E sc d 143 1 [some (.ref a)] (.ref a :: st) g mi mr Q := tw_x_aload_n td_143_0 rfl
theorem td_143_1 : decode (tw_cd 143) 1 = .ok (.iconst 0, 1) := by decide +kernel
theorem tz_143_1 : tw_E sc d 143 1 [x0] st g mi mr Q = tw_E sc d 143 2 [x0] (.int 0 :: st) g mi mr Q := tw_x_iconst td_143_1 (by decide)
theorem td_143_2 : decode (tw_cd 143) 2 = .ok (.putfield 83, 3) := by decide +kernel
theorem tz_143_2 : tw_E sc d 143 2 [x0] (.int v :: .ref a :: st) g mi mr Q = (tw_kd g a = 10 ∧ tw_E sc d 143 5 [x0] st g (tw_st mi a (tw_st (mi a) 0 v)) mr Q) := tw_x_puti td_143_2 to_143 tf_10_83 rfl rfl
theorem td_143_5 : decode (tw_cd 143) 5 = .ok (.aload_n 0, 1) := by decide +kernel
theorem tz_143_5 : tw_E sc d 143 5 [some (.ref a)] st g mi mr Q = tw_E sc d 143 6 [some (.ref a)] (.ref a :: st) g mi mr Q := tw_x_aload_n td_143_5 rfl
theorem td_143_6 : decode (tw_cd 143) 6 = .ok (.getfield 173, 3) := by decide +kernel
theorem tz_143_6 : tw_E sc d 143 6 [x0] (.ref a :: st) g mi mr Q = (tw_kd g a = 10 ∧ tw_E sc d 143 9 [x0] (.int (mi a 3) :: st) g mi mr Q) := tw_x_geti td_143_6 to_143 tf_10_173 (trf_10_3)
theorem td_143_9 : decode (tw_cd 143) 9 = .ok (.ireturn, 1) := by decide +kernel
theorem tz_143_9 : tw_E sc d 143 9 [x0] ([.int v]) g mi mr Q = Q (some (.int v)) g mi mr := tw_x_iret td_143_9 tr_143
end tz_143
-- 144: Mo_node2
section tz_144
variable {sc : Nat × (Nat → Int32)} {d : Nat} {x0 x1 x2 x3 x4 : Option Value} {st : List Value} {g : tw_G} {mi : tw_I} {mr : tw_Q} {Q : Option Value → tw_G → tw_I → tw_Q → Prop} {v w u : Int32} {a b : Nat} {j h : Int64} {s1 s2 s3 s4 : Value}
theorem td_144_0 : decode (tw_cd 144) 0 = .ok (.aload_n 0, 1) := by decide +kernel
theorem tz_144_0 : tw_E sc d 144 0 [some (.ref a), x1, x2, x3, x4] st g mi mr Q = tw_E sc d 144 1 [some (.ref a), x1, x2, x3, x4] (.ref a :: st) g mi mr Q := tw_x_aload_n td_144_0 rfl
theorem td_144_1 : decode (tw_cd 144) 1 = .ok (.iconst 0, 1) := by decide +kernel
theorem tz_144_1 : tw_E sc d 144 1 [x0, x1, x2, x3, x4] st g mi mr Q = tw_E sc d 144 2 [x0, x1, x2, x3, x4] (.int 0 :: st) g mi mr Q := tw_x_iconst td_144_1 (by decide)
theorem td_144_2 : decode (tw_cd 144) 2 = .ok (.putfield 83, 3) := by decide +kernel
theorem tz_144_2 : tw_E sc d 144 2 [x0, x1, x2, x3, x4] (.int v :: .ref a :: st) g mi mr Q = (tw_kd g a = 10 ∧ tw_E sc d 144 5 [x0, x1, x2, x3, x4] st g (tw_st mi a (tw_st (mi a) 0 v)) mr Q) := tw_x_puti td_144_2 to_144 tf_10_83 rfl rfl
theorem td_144_5 : decode (tw_cd 144) 5 = .ok (.iload_n 1, 1) := by decide +kernel
theorem tz_144_5 : tw_E sc d 144 5 [x0, some (.int v), x2, x3, x4] st g mi mr Q = tw_E sc d 144 6 [x0, some (.int v), x2, x3, x4] (.int v :: st) g mi mr Q := tw_x_iload_n td_144_5 rfl
theorem td_144_6 : decode (tw_cd 144) 6 = .ok (.i2l, 1) := by decide +kernel
theorem tz_144_6 : tw_E sc d 144 6 [x0, x1, x2, x3, x4] (.int v :: st) g mi mr Q = tw_E sc d 144 7 [x0, x1, x2, x3, x4] (.long v.toInt64 :: st) g mi mr Q := tw_x_i2l td_144_6
theorem td_144_7 : decode (tw_cd 144) 7 = .ok (.lconst 0, 1) := by decide +kernel
theorem tz_144_7 : tw_E sc d 144 7 [x0, x1, x2, x3, x4] st g mi mr Q = tw_E sc d 144 8 [x0, x1, x2, x3, x4] (.long 0 :: st) g mi mr Q := tw_x_lconst td_144_7 (by decide)
theorem td_144_8 : decode (tw_cd 144) 8 = .ok (.aload_n 0, 1) := by decide +kernel
theorem tz_144_8 : tw_E sc d 144 8 [some (.ref a), x1, x2, x3, x4] st g mi mr Q = tw_E sc d 144 9 [some (.ref a), x1, x2, x3, x4] (.ref a :: st) g mi mr Q := tw_x_aload_n td_144_8 rfl
theorem td_144_9 : decode (tw_cd 144) 9 = .ok (.getfield 176, 3) := by decide +kernel
theorem tz_144_9 : tw_E sc d 144 9 [x0, x1, x2, x3, x4] (.ref a :: st) g mi mr Q = (tw_kd g a = 10 ∧ tw_E sc d 144 12 [x0, x1, x2, x3, x4] (.int (mi a 5) :: st) g mi mr Q) := tw_x_geti td_144_9 to_144 tf_10_176 (trf_10_5)
theorem td_144_12 : decode (tw_cd 144) 12 = .ok (.iconst 1, 1) := by decide +kernel
theorem tz_144_12 : tw_E sc d 144 12 [x0, x1, x2, x3, x4] st g mi mr Q = tw_E sc d 144 13 [x0, x1, x2, x3, x4] (.int 1 :: st) g mi mr Q := tw_x_iconst td_144_12 (by decide)
theorem td_144_13 : decode (tw_cd 144) 13 = .ok (.isub, 1) := by decide +kernel
theorem tz_144_13 : tw_E sc d 144 13 [x0, x1, x2, x3, x4] (.int w :: .int v :: st) g mi mr Q = tw_E sc d 144 14 [x0, x1, x2, x3, x4] (.int (v - w) :: st) g mi mr Q := tw_x_isub td_144_13
theorem td_144_14 : decode (tw_cd 144) 14 = .ok (.i2l, 1) := by decide +kernel
theorem tz_144_14 : tw_E sc d 144 14 [x0, x1, x2, x3, x4] (.int v :: st) g mi mr Q = tw_E sc d 144 15 [x0, x1, x2, x3, x4] (.long v.toInt64 :: st) g mi mr Q := tw_x_i2l td_144_14
theorem td_144_15 : decode (tw_cd 144) 15 = .ok (.invokestatic 96, 3) := by decide +kernel
theorem tz_144_15 {a0 : Int64} {a1 : Int64} {a2 : Int64} : tw_E sc (d + 1) 144 15 [x0, x1, x2, x3, x4] ([.long a2, .long a1, .long a0]) g mi mr Q = tw_E sc d 126 0 [some (.long a0), none, some (.long a1), none, some (.long a2), none] [] g mi mr (tw_K sc (d + 1) 144 18 [x0, x1, x2, x3, x4] [] Q) := tw_x_cs (as := [.long a0, .long a1, .long a2]) (r := []) td_144_15 to_144 tmn_10_96 tc_10_96 rfl rfl rfl rfl rfl
theorem td_144_18 : decode (tw_cd 144) 18 = .ok (.ifCond .ne 5, 3) := by decide +kernel
theorem tz_144_18 : tw_E sc d 144 18 [x0, x1, x2, x3, x4] (.int v :: st) g mi mr Q = if ¬ v = 0 then tw_E sc d 144 23 [x0, x1, x2, x3, x4] st g mi mr Q else tw_E sc d 144 21 [x0, x1, x2, x3, x4] st g mi mr Q := tw_x_if_ne td_144_18 (by decide)
theorem td_144_21 : decode (tw_cd 144) 21 = .ok (.iconst (-1), 1) := by decide +kernel
theorem tz_144_21 : tw_E sc d 144 21 [x0, x1, x2, x3, x4] st g mi mr Q = tw_E sc d 144 22 [x0, x1, x2, x3, x4] (.int (-1) :: st) g mi mr Q := tw_x_iconst td_144_21 (by decide)
theorem td_144_22 : decode (tw_cd 144) 22 = .ok (.ireturn, 1) := by decide +kernel
theorem tz_144_22 : tw_E sc d 144 22 [x0, x1, x2, x3, x4] ([.int v]) g mi mr Q = Q (some (.int v)) g mi mr := tw_x_iret td_144_22 tr_144
theorem td_144_23 : decode (tw_cd 144) 23 = .ok (.iload_n 2, 1) := by decide +kernel
theorem tz_144_23 : tw_E sc d 144 23 [x0, x1, some (.int v), x3, x4] st g mi mr Q = tw_E sc d 144 24 [x0, x1, some (.int v), x3, x4] (.int v :: st) g mi mr Q := tw_x_iload_n td_144_23 rfl
theorem td_144_24 : decode (tw_cd 144) 24 = .ok (.i2l, 1) := by decide +kernel
theorem tz_144_24 : tw_E sc d 144 24 [x0, x1, x2, x3, x4] (.int v :: st) g mi mr Q = tw_E sc d 144 25 [x0, x1, x2, x3, x4] (.long v.toInt64 :: st) g mi mr Q := tw_x_i2l td_144_24
theorem td_144_25 : decode (tw_cd 144) 25 = .ok (.lconst 0, 1) := by decide +kernel
theorem tz_144_25 : tw_E sc d 144 25 [x0, x1, x2, x3, x4] st g mi mr Q = tw_E sc d 144 26 [x0, x1, x2, x3, x4] (.long 0 :: st) g mi mr Q := tw_x_lconst td_144_25 (by decide)
theorem td_144_26 : decode (tw_cd 144) 26 = .ok (.ldc2_w 188, 3) := by decide +kernel
theorem tz_144_26 : tw_E sc d 144 26 [x0, x1, x2, x3, x4] st g mi mr Q = tw_E sc d 144 29 [x0, x1, x2, x3, x4] (.long 8 :: st) g mi mr Q := tw_x_ldl td_144_26 to_144 tl_10_188
theorem td_144_29 : decode (tw_cd 144) 29 = .ok (.invokestatic 96, 3) := by decide +kernel
theorem tz_144_29 {a0 : Int64} {a1 : Int64} {a2 : Int64} : tw_E sc (d + 1) 144 29 [x0, x1, x2, x3, x4] ([.long a2, .long a1, .long a0]) g mi mr Q = tw_E sc d 126 0 [some (.long a0), none, some (.long a1), none, some (.long a2), none] [] g mi mr (tw_K sc (d + 1) 144 32 [x0, x1, x2, x3, x4] [] Q) := tw_x_cs (as := [.long a0, .long a1, .long a2]) (r := []) td_144_29 to_144 tmn_10_96 tc_10_96 rfl rfl rfl rfl rfl
theorem td_144_32 : decode (tw_cd 144) 32 = .ok (.ifCond .eq 15, 3) := by decide +kernel
theorem tz_144_32 : tw_E sc d 144 32 [x0, x1, x2, x3, x4] (.int v :: st) g mi mr Q = if v = 0 then tw_E sc d 144 47 [x0, x1, x2, x3, x4] st g mi mr Q else tw_E sc d 144 35 [x0, x1, x2, x3, x4] st g mi mr Q := tw_x_if_eq td_144_32 (by decide)
theorem td_144_35 : decode (tw_cd 144) 35 = .ok (.iload_n 3, 1) := by decide +kernel
theorem tz_144_35 : tw_E sc d 144 35 [x0, x1, x2, some (.int v), x4] st g mi mr Q = tw_E sc d 144 36 [x0, x1, x2, some (.int v), x4] (.int v :: st) g mi mr Q := tw_x_iload_n td_144_35 rfl
theorem td_144_36 : decode (tw_cd 144) 36 = .ok (.i2l, 1) := by decide +kernel
theorem tz_144_36 : tw_E sc d 144 36 [x0, x1, x2, x3, x4] (.int v :: st) g mi mr Q = tw_E sc d 144 37 [x0, x1, x2, x3, x4] (.long v.toInt64 :: st) g mi mr Q := tw_x_i2l td_144_36
theorem td_144_37 : decode (tw_cd 144) 37 = .ok (.lconst 0, 1) := by decide +kernel
theorem tz_144_37 : tw_E sc d 144 37 [x0, x1, x2, x3, x4] st g mi mr Q = tw_E sc d 144 38 [x0, x1, x2, x3, x4] (.long 0 :: st) g mi mr Q := tw_x_lconst td_144_37 (by decide)
theorem td_144_38 : decode (tw_cd 144) 38 = .ok (.ldc2_w 190, 3) := by decide +kernel
theorem tz_144_38 : tw_E sc d 144 38 [x0, x1, x2, x3, x4] st g mi mr Q = tw_E sc d 144 41 [x0, x1, x2, x3, x4] (.long 4 :: st) g mi mr Q := tw_x_ldl td_144_38 to_144 tl_10_190
theorem td_144_41 : decode (tw_cd 144) 41 = .ok (.invokestatic 96, 3) := by decide +kernel
theorem tz_144_41 {a0 : Int64} {a1 : Int64} {a2 : Int64} : tw_E sc (d + 1) 144 41 [x0, x1, x2, x3, x4] ([.long a2, .long a1, .long a0]) g mi mr Q = tw_E sc d 126 0 [some (.long a0), none, some (.long a1), none, some (.long a2), none] [] g mi mr (tw_K sc (d + 1) 144 44 [x0, x1, x2, x3, x4] [] Q) := tw_x_cs (as := [.long a0, .long a1, .long a2]) (r := []) td_144_41 to_144 tmn_10_96 tc_10_96 rfl rfl rfl rfl rfl
theorem td_144_44 : decode (tw_cd 144) 44 = .ok (.ifCond .ne 6, 3) := by decide +kernel
theorem tz_144_44 : tw_E sc d 144 44 [x0, x1, x2, x3, x4] (.int v :: st) g mi mr Q = if ¬ v = 0 then tw_E sc d 144 50 [x0, x1, x2, x3, x4] st g mi mr Q else tw_E sc d 144 47 [x0, x1, x2, x3, x4] st g mi mr Q := tw_x_if_ne td_144_44 (by decide)
theorem td_144_47 : decode (tw_cd 144) 47 = .ok (.bipush (-2), 2) := by decide +kernel
theorem tz_144_47 : tw_E sc d 144 47 [x0, x1, x2, x3, x4] st g mi mr Q = tw_E sc d 144 49 [x0, x1, x2, x3, x4] (.int (-2) :: st) g mi mr Q := tw_x_bipush td_144_47 (by decide)
theorem td_144_49 : decode (tw_cd 144) 49 = .ok (.ireturn, 1) := by decide +kernel
theorem tz_144_49 : tw_E sc d 144 49 [x0, x1, x2, x3, x4] ([.int v]) g mi mr Q = Q (some (.int v)) g mi mr := tw_x_iret td_144_49 tr_144
theorem td_144_50 : decode (tw_cd 144) 50 = .ok (.iload_n 2, 1) := by decide +kernel
theorem tz_144_50 : tw_E sc d 144 50 [x0, x1, some (.int v), x3, x4] st g mi mr Q = tw_E sc d 144 51 [x0, x1, some (.int v), x3, x4] (.int v :: st) g mi mr Q := tw_x_iload_n td_144_50 rfl
theorem td_144_51 : decode (tw_cd 144) 51 = .ok (.bipush 8, 2) := by decide +kernel
theorem tz_144_51 : tw_E sc d 144 51 [x0, x1, x2, x3, x4] st g mi mr Q = tw_E sc d 144 53 [x0, x1, x2, x3, x4] (.int 8 :: st) g mi mr Q := tw_x_bipush td_144_51 (by decide)
theorem td_144_53 : decode (tw_cd 144) 53 = .ok (.if_icmp .eq 44, 3) := by decide +kernel
theorem tz_144_53 : tw_E sc d 144 53 [x0, x1, x2, x3, x4] (.int w :: .int v :: st) g mi mr Q = if v = w then tw_E sc d 144 97 [x0, x1, x2, x3, x4] st g mi mr Q else tw_E sc d 144 56 [x0, x1, x2, x3, x4] st g mi mr Q := tw_x_ic_eq td_144_53 (by decide)
theorem td_144_56 : decode (tw_cd 144) 56 = .ok (.iload_n 2, 1) := by decide +kernel
theorem tz_144_56 : tw_E sc d 144 56 [x0, x1, some (.int v), x3, x4] st g mi mr Q = tw_E sc d 144 57 [x0, x1, some (.int v), x3, x4] (.int v :: st) g mi mr Q := tw_x_iload_n td_144_56 rfl
theorem td_144_57 : decode (tw_cd 144) 57 = .ok (.aload_n 0, 1) := by decide +kernel
theorem tz_144_57 : tw_E sc d 144 57 [some (.ref a), x1, x2, x3, x4] st g mi mr Q = tw_E sc d 144 58 [some (.ref a), x1, x2, x3, x4] (.ref a :: st) g mi mr Q := tw_x_aload_n td_144_57 rfl
theorem td_144_58 : decode (tw_cd 144) 58 = .ok (.getfield 13, 3) := by decide +kernel
theorem tz_144_58 : tw_E sc d 144 58 [x0, x1, x2, x3, x4] (.ref a :: st) g mi mr Q = (tw_kd g a = 10 ∧ tw_E sc d 144 61 [x0, x1, x2, x3, x4] (va_rf (mr a 6) :: st) g mi mr Q) := tw_x_getr td_144_58 to_144 tf_10_13 (trf_10_6)
theorem td_144_61 : decode (tw_cd 144) 61 = .ok (.iload_n 1, 1) := by decide +kernel
theorem tz_144_61 : tw_E sc d 144 61 [x0, some (.int v), x2, x3, x4] st g mi mr Q = tw_E sc d 144 62 [x0, some (.int v), x2, x3, x4] (.int v :: st) g mi mr Q := tw_x_iload_n td_144_61 rfl
theorem td_144_62 : decode (tw_cd 144) 62 = .ok (.iaload, 1) := by decide +kernel
theorem tz_144_62 : tw_E sc d 144 62 [x0, x1, x2, x3, x4] (.int v :: .ref a :: st) g mi mr Q = ((tw_kd g a = 20 ∧ vp_in v (tw_ln g a)) ∧ tw_E sc d 144 63 [x0, x1, x2, x3, x4] (.int (mi a v.toNatClampNeg) :: st) g mi mr Q) := tw_x_iald td_144_62
theorem td_144_63 : decode (tw_cd 144) 63 = .ok (.if_icmp .eq 34, 3) := by decide +kernel
theorem tz_144_63 : tw_E sc d 144 63 [x0, x1, x2, x3, x4] (.int w :: .int v :: st) g mi mr Q = if v = w then tw_E sc d 144 97 [x0, x1, x2, x3, x4] st g mi mr Q else tw_E sc d 144 66 [x0, x1, x2, x3, x4] st g mi mr Q := tw_x_ic_eq td_144_63 (by decide)
theorem td_144_66 : decode (tw_cd 144) 66 = .ok (.iload_n 2, 1) := by decide +kernel
theorem tz_144_66 : tw_E sc d 144 66 [x0, x1, some (.int v), x3, x4] st g mi mr Q = tw_E sc d 144 67 [x0, x1, some (.int v), x3, x4] (.int v :: st) g mi mr Q := tw_x_iload_n td_144_66 rfl
theorem td_144_67 : decode (tw_cd 144) 67 = .ok (.ifCond .ne 13, 3) := by decide +kernel
theorem tz_144_67 : tw_E sc d 144 67 [x0, x1, x2, x3, x4] (.int v :: st) g mi mr Q = if ¬ v = 0 then tw_E sc d 144 80 [x0, x1, x2, x3, x4] st g mi mr Q else tw_E sc d 144 70 [x0, x1, x2, x3, x4] st g mi mr Q := tw_x_if_ne td_144_67 (by decide)
theorem td_144_70 : decode (tw_cd 144) 70 = .ok (.aload_n 0, 1) := by decide +kernel
theorem tz_144_70 : tw_E sc d 144 70 [some (.ref a), x1, x2, x3, x4] st g mi mr Q = tw_E sc d 144 71 [some (.ref a), x1, x2, x3, x4] (.ref a :: st) g mi mr Q := tw_x_aload_n td_144_70 rfl
theorem td_144_71 : decode (tw_cd 144) 71 = .ok (.getfield 13, 3) := by decide +kernel
theorem tz_144_71 : tw_E sc d 144 71 [x0, x1, x2, x3, x4] (.ref a :: st) g mi mr Q = (tw_kd g a = 10 ∧ tw_E sc d 144 74 [x0, x1, x2, x3, x4] (va_rf (mr a 6) :: st) g mi mr Q) := tw_x_getr td_144_71 to_144 tf_10_13 (trf_10_6)
theorem td_144_74 : decode (tw_cd 144) 74 = .ok (.iload_n 1, 1) := by decide +kernel
theorem tz_144_74 : tw_E sc d 144 74 [x0, some (.int v), x2, x3, x4] st g mi mr Q = tw_E sc d 144 75 [x0, some (.int v), x2, x3, x4] (.int v :: st) g mi mr Q := tw_x_iload_n td_144_74 rfl
theorem td_144_75 : decode (tw_cd 144) 75 = .ok (.iaload, 1) := by decide +kernel
theorem tz_144_75 : tw_E sc d 144 75 [x0, x1, x2, x3, x4] (.int v :: .ref a :: st) g mi mr Q = ((tw_kd g a = 20 ∧ vp_in v (tw_ln g a)) ∧ tw_E sc d 144 76 [x0, x1, x2, x3, x4] (.int (mi a v.toNatClampNeg) :: st) g mi mr Q) := tw_x_iald td_144_75
theorem td_144_76 : decode (tw_cd 144) 76 = .ok (.iconst 1, 1) := by decide +kernel
theorem tz_144_76 : tw_E sc d 144 76 [x0, x1, x2, x3, x4] st g mi mr Q = tw_E sc d 144 77 [x0, x1, x2, x3, x4] (.int 1 :: st) g mi mr Q := tw_x_iconst td_144_76 (by decide)
theorem td_144_77 : decode (tw_cd 144) 77 = .ok (.if_icmp .eq 20, 3) := by decide +kernel
theorem tz_144_77 : tw_E sc d 144 77 [x0, x1, x2, x3, x4] (.int w :: .int v :: st) g mi mr Q = if v = w then tw_E sc d 144 97 [x0, x1, x2, x3, x4] st g mi mr Q else tw_E sc d 144 80 [x0, x1, x2, x3, x4] st g mi mr Q := tw_x_ic_eq td_144_77 (by decide)
theorem td_144_80 : decode (tw_cd 144) 80 = .ok (.iload_n 2, 1) := by decide +kernel
theorem tz_144_80 : tw_E sc d 144 80 [x0, x1, some (.int v), x3, x4] st g mi mr Q = tw_E sc d 144 81 [x0, x1, some (.int v), x3, x4] (.int v :: st) g mi mr Q := tw_x_iload_n td_144_80 rfl
theorem td_144_81 : decode (tw_cd 144) 81 = .ok (.bipush 6, 2) := by decide +kernel
theorem tz_144_81 : tw_E sc d 144 81 [x0, x1, x2, x3, x4] st g mi mr Q = tw_E sc d 144 83 [x0, x1, x2, x3, x4] (.int 6 :: st) g mi mr Q := tw_x_bipush td_144_81 (by decide)
theorem td_144_83 : decode (tw_cd 144) 83 = .ok (.if_icmp .ne 18, 3) := by decide +kernel
theorem tz_144_83 : tw_E sc d 144 83 [x0, x1, x2, x3, x4] (.int w :: .int v :: st) g mi mr Q = if ¬ v = w then tw_E sc d 144 101 [x0, x1, x2, x3, x4] st g mi mr Q else tw_E sc d 144 86 [x0, x1, x2, x3, x4] st g mi mr Q := tw_x_ic_ne td_144_83 (by decide)
theorem td_144_86 : decode (tw_cd 144) 86 = .ok (.aload_n 0, 1) := by decide +kernel
theorem tz_144_86 : tw_E sc d 144 86 [some (.ref a), x1, x2, x3, x4] st g mi mr Q = tw_E sc d 144 87 [some (.ref a), x1, x2, x3, x4] (.ref a :: st) g mi mr Q := tw_x_aload_n td_144_86 rfl
theorem td_144_87 : decode (tw_cd 144) 87 = .ok (.getfield 13, 3) := by decide +kernel
theorem tz_144_87 : tw_E sc d 144 87 [x0, x1, x2, x3, x4] (.ref a :: st) g mi mr Q = (tw_kd g a = 10 ∧ tw_E sc d 144 90 [x0, x1, x2, x3, x4] (va_rf (mr a 6) :: st) g mi mr Q) := tw_x_getr td_144_87 to_144 tf_10_13 (trf_10_6)
theorem td_144_90 : decode (tw_cd 144) 90 = .ok (.iload_n 1, 1) := by decide +kernel
theorem tz_144_90 : tw_E sc d 144 90 [x0, some (.int v), x2, x3, x4] st g mi mr Q = tw_E sc d 144 91 [x0, some (.int v), x2, x3, x4] (.int v :: st) g mi mr Q := tw_x_iload_n td_144_90 rfl
theorem td_144_91 : decode (tw_cd 144) 91 = .ok (.iaload, 1) := by decide +kernel
theorem tz_144_91 : tw_E sc d 144 91 [x0, x1, x2, x3, x4] (.int v :: .ref a :: st) g mi mr Q = ((tw_kd g a = 20 ∧ vp_in v (tw_ln g a)) ∧ tw_E sc d 144 92 [x0, x1, x2, x3, x4] (.int (mi a v.toNatClampNeg) :: st) g mi mr Q) := tw_x_iald td_144_91
theorem td_144_92 : decode (tw_cd 144) 92 = .ok (.bipush 7, 2) := by decide +kernel
theorem tz_144_92 : tw_E sc d 144 92 [x0, x1, x2, x3, x4] st g mi mr Q = tw_E sc d 144 94 [x0, x1, x2, x3, x4] (.int 7 :: st) g mi mr Q := tw_x_bipush td_144_92 (by decide)
theorem td_144_94 : decode (tw_cd 144) 94 = .ok (.if_icmp .ne 7, 3) := by decide +kernel
theorem tz_144_94 : tw_E sc d 144 94 [x0, x1, x2, x3, x4] (.int w :: .int v :: st) g mi mr Q = if ¬ v = w then tw_E sc d 144 101 [x0, x1, x2, x3, x4] st g mi mr Q else tw_E sc d 144 97 [x0, x1, x2, x3, x4] st g mi mr Q := tw_x_ic_ne td_144_94 (by decide)
theorem td_144_97 : decode (tw_cd 144) 97 = .ok (.iconst 1, 1) := by decide +kernel
theorem tz_144_97 : tw_E sc d 144 97 [x0, x1, x2, x3, x4] st g mi mr Q = tw_E sc d 144 98 [x0, x1, x2, x3, x4] (.int 1 :: st) g mi mr Q := tw_x_iconst td_144_97 (by decide)
theorem td_144_98 : decode (tw_cd 144) 98 = .ok (.goto 4, 3) := by decide +kernel
theorem tz_144_98 : tw_E sc d 144 98 [x0, x1, x2, x3, x4] st g mi mr Q = tw_E sc d 144 102 [x0, x1, x2, x3, x4] st g mi mr Q := tw_x_goto td_144_98 (by decide)
theorem td_144_101 : decode (tw_cd 144) 101 = .ok (.iconst 0, 1) := by decide +kernel
theorem tz_144_101 : tw_E sc d 144 101 [x0, x1, x2, x3, x4] st g mi mr Q = tw_E sc d 144 102 [x0, x1, x2, x3, x4] (.int 0 :: st) g mi mr Q := tw_x_iconst td_144_101 (by decide)
theorem td_144_102 : decode (tw_cd 144) 102 = .ok (.istore 4, 2) := by decide +kernel
theorem tz_144_102 : tw_E sc d 144 102 [x0, x1, x2, x3, x4] (.int v :: st) g mi mr Q = tw_E sc d 144 104 [x0, x1, x2, x3, some (.int v)] st g mi mr Q := tw_x_istore td_144_102 tp_144 rfl
theorem td_144_104 : decode (tw_cd 144) 104 = .ok (.iload 4, 2) := by decide +kernel
theorem tz_144_104 : tw_E sc d 144 104 [x0, x1, x2, x3, some (.int v)] st g mi mr Q = tw_E sc d 144 106 [x0, x1, x2, x3, some (.int v)] (.int v :: st) g mi mr Q := tw_x_iload td_144_104 rfl
theorem td_144_106 : decode (tw_cd 144) 106 = .ok (.ifCond .ne 6, 3) := by decide +kernel
theorem tz_144_106 : tw_E sc d 144 106 [x0, x1, x2, x3, x4] (.int v :: st) g mi mr Q = if ¬ v = 0 then tw_E sc d 144 112 [x0, x1, x2, x3, x4] st g mi mr Q else tw_E sc d 144 109 [x0, x1, x2, x3, x4] st g mi mr Q := tw_x_if_ne td_144_106 (by decide)
theorem td_144_109 : decode (tw_cd 144) 109 = .ok (.bipush (-13), 2) := by decide +kernel
theorem tz_144_109 : tw_E sc d 144 109 [x0, x1, x2, x3, x4] st g mi mr Q = tw_E sc d 144 111 [x0, x1, x2, x3, x4] (.int (-13) :: st) g mi mr Q := tw_x_bipush td_144_109 (by decide)
theorem td_144_111 : decode (tw_cd 144) 111 = .ok (.ireturn, 1) := by decide +kernel
theorem tz_144_111 : tw_E sc d 144 111 [x0, x1, x2, x3, x4] ([.int v]) g mi mr Q = Q (some (.int v)) g mi mr := tw_x_iret td_144_111 tr_144
theorem td_144_112 : decode (tw_cd 144) 112 = .ok (.iload_n 3, 1) := by decide +kernel
theorem tz_144_112 : tw_E sc d 144 112 [x0, x1, x2, some (.int v), x4] st g mi mr Q = tw_E sc d 144 113 [x0, x1, x2, some (.int v), x4] (.int v :: st) g mi mr Q := tw_x_iload_n td_144_112 rfl
theorem td_144_113 : decode (tw_cd 144) 113 = .ok (.ifCond .ne 12, 3) := by decide +kernel
theorem tz_144_113 : tw_E sc d 144 113 [x0, x1, x2, x3, x4] (.int v :: st) g mi mr Q = if ¬ v = 0 then tw_E sc d 144 125 [x0, x1, x2, x3, x4] st g mi mr Q else tw_E sc d 144 116 [x0, x1, x2, x3, x4] st g mi mr Q := tw_x_if_ne td_144_113 (by decide)
theorem td_144_116 : decode (tw_cd 144) 116 = .ok (.aload_n 0, 1) := by decide +kernel
theorem tz_144_116 : tw_E sc d 144 116 [some (.ref a), x1, x2, x3, x4] st g mi mr Q = tw_E sc d 144 117 [some (.ref a), x1, x2, x3, x4] (.ref a :: st) g mi mr Q := tw_x_aload_n td_144_116 rfl
theorem td_144_117 : decode (tw_cd 144) 117 = .ok (.getfield 13, 3) := by decide +kernel
theorem tz_144_117 : tw_E sc d 144 117 [x0, x1, x2, x3, x4] (.ref a :: st) g mi mr Q = (tw_kd g a = 10 ∧ tw_E sc d 144 120 [x0, x1, x2, x3, x4] (va_rf (mr a 6) :: st) g mi mr Q) := tw_x_getr td_144_117 to_144 tf_10_13 (trf_10_6)
theorem td_144_120 : decode (tw_cd 144) 120 = .ok (.iload_n 1, 1) := by decide +kernel
theorem tz_144_120 : tw_E sc d 144 120 [x0, some (.int v), x2, x3, x4] st g mi mr Q = tw_E sc d 144 121 [x0, some (.int v), x2, x3, x4] (.int v :: st) g mi mr Q := tw_x_iload_n td_144_120 rfl
theorem td_144_121 : decode (tw_cd 144) 121 = .ok (.iaload, 1) := by decide +kernel
theorem tz_144_121 : tw_E sc d 144 121 [x0, x1, x2, x3, x4] (.int v :: .ref a :: st) g mi mr Q = ((tw_kd g a = 20 ∧ vp_in v (tw_ln g a)) ∧ tw_E sc d 144 122 [x0, x1, x2, x3, x4] (.int (mi a v.toNatClampNeg) :: st) g mi mr Q) := tw_x_iald td_144_121
theorem td_144_122 : decode (tw_cd 144) 122 = .ok (.goto 51, 3) := by decide +kernel
theorem tz_144_122 : tw_E sc d 144 122 [x0, x1, x2, x3, x4] st g mi mr Q = tw_E sc d 144 173 [x0, x1, x2, x3, x4] st g mi mr Q := tw_x_goto td_144_122 (by decide)
theorem td_144_125 : decode (tw_cd 144) 125 = .ok (.iload_n 3, 1) := by decide +kernel
theorem tz_144_125 : tw_E sc d 144 125 [x0, x1, x2, some (.int v), x4] st g mi mr Q = tw_E sc d 144 126 [x0, x1, x2, some (.int v), x4] (.int v :: st) g mi mr Q := tw_x_iload_n td_144_125 rfl
theorem td_144_126 : decode (tw_cd 144) 126 = .ok (.iconst 1, 1) := by decide +kernel
theorem tz_144_126 : tw_E sc d 144 126 [x0, x1, x2, x3, x4] st g mi mr Q = tw_E sc d 144 127 [x0, x1, x2, x3, x4] (.int 1 :: st) g mi mr Q := tw_x_iconst td_144_126 (by decide)
theorem td_144_127 : decode (tw_cd 144) 127 = .ok (.if_icmp .ne 12, 3) := by decide +kernel
theorem tz_144_127 : tw_E sc d 144 127 [x0, x1, x2, x3, x4] (.int w :: .int v :: st) g mi mr Q = if ¬ v = w then tw_E sc d 144 139 [x0, x1, x2, x3, x4] st g mi mr Q else tw_E sc d 144 130 [x0, x1, x2, x3, x4] st g mi mr Q := tw_x_ic_ne td_144_127 (by decide)
theorem td_144_130 : decode (tw_cd 144) 130 = .ok (.aload_n 0, 1) := by decide +kernel
theorem tz_144_130 : tw_E sc d 144 130 [some (.ref a), x1, x2, x3, x4] st g mi mr Q = tw_E sc d 144 131 [some (.ref a), x1, x2, x3, x4] (.ref a :: st) g mi mr Q := tw_x_aload_n td_144_130 rfl
theorem td_144_131 : decode (tw_cd 144) 131 = .ok (.getfield 16, 3) := by decide +kernel
theorem tz_144_131 : tw_E sc d 144 131 [x0, x1, x2, x3, x4] (.ref a :: st) g mi mr Q = (tw_kd g a = 10 ∧ tw_E sc d 144 134 [x0, x1, x2, x3, x4] (va_rf (mr a 7) :: st) g mi mr Q) := tw_x_getr td_144_131 to_144 tf_10_16 (trf_10_7)
theorem td_144_134 : decode (tw_cd 144) 134 = .ok (.iload_n 1, 1) := by decide +kernel
theorem tz_144_134 : tw_E sc d 144 134 [x0, some (.int v), x2, x3, x4] st g mi mr Q = tw_E sc d 144 135 [x0, some (.int v), x2, x3, x4] (.int v :: st) g mi mr Q := tw_x_iload_n td_144_134 rfl
theorem td_144_135 : decode (tw_cd 144) 135 = .ok (.iaload, 1) := by decide +kernel
theorem tz_144_135 : tw_E sc d 144 135 [x0, x1, x2, x3, x4] (.int v :: .ref a :: st) g mi mr Q = ((tw_kd g a = 20 ∧ vp_in v (tw_ln g a)) ∧ tw_E sc d 144 136 [x0, x1, x2, x3, x4] (.int (mi a v.toNatClampNeg) :: st) g mi mr Q) := tw_x_iald td_144_135
theorem td_144_136 : decode (tw_cd 144) 136 = .ok (.goto 37, 3) := by decide +kernel
theorem tz_144_136 : tw_E sc d 144 136 [x0, x1, x2, x3, x4] st g mi mr Q = tw_E sc d 144 173 [x0, x1, x2, x3, x4] st g mi mr Q := tw_x_goto td_144_136 (by decide)
theorem td_144_139 : decode (tw_cd 144) 139 = .ok (.iload_n 3, 1) := by decide +kernel
theorem tz_144_139 : tw_E sc d 144 139 [x0, x1, x2, some (.int v), x4] st g mi mr Q = tw_E sc d 144 140 [x0, x1, x2, some (.int v), x4] (.int v :: st) g mi mr Q := tw_x_iload_n td_144_139 rfl
theorem td_144_140 : decode (tw_cd 144) 140 = .ok (.iconst 2, 1) := by decide +kernel
theorem tz_144_140 : tw_E sc d 144 140 [x0, x1, x2, x3, x4] st g mi mr Q = tw_E sc d 144 141 [x0, x1, x2, x3, x4] (.int 2 :: st) g mi mr Q := tw_x_iconst td_144_140 (by decide)
theorem td_144_141 : decode (tw_cd 144) 141 = .ok (.if_icmp .ne 12, 3) := by decide +kernel
theorem tz_144_141 : tw_E sc d 144 141 [x0, x1, x2, x3, x4] (.int w :: .int v :: st) g mi mr Q = if ¬ v = w then tw_E sc d 144 153 [x0, x1, x2, x3, x4] st g mi mr Q else tw_E sc d 144 144 [x0, x1, x2, x3, x4] st g mi mr Q := tw_x_ic_ne td_144_141 (by decide)
theorem td_144_144 : decode (tw_cd 144) 144 = .ok (.aload_n 0, 1) := by decide +kernel
theorem tz_144_144 : tw_E sc d 144 144 [some (.ref a), x1, x2, x3, x4] st g mi mr Q = tw_E sc d 144 145 [some (.ref a), x1, x2, x3, x4] (.ref a :: st) g mi mr Q := tw_x_aload_n td_144_144 rfl
theorem td_144_145 : decode (tw_cd 144) 145 = .ok (.getfield 19, 3) := by decide +kernel
theorem tz_144_145 : tw_E sc d 144 145 [x0, x1, x2, x3, x4] (.ref a :: st) g mi mr Q = (tw_kd g a = 10 ∧ tw_E sc d 144 148 [x0, x1, x2, x3, x4] (va_rf (mr a 8) :: st) g mi mr Q) := tw_x_getr td_144_145 to_144 tf_10_19 (trf_10_8)
theorem td_144_148 : decode (tw_cd 144) 148 = .ok (.iload_n 1, 1) := by decide +kernel
theorem tz_144_148 : tw_E sc d 144 148 [x0, some (.int v), x2, x3, x4] st g mi mr Q = tw_E sc d 144 149 [x0, some (.int v), x2, x3, x4] (.int v :: st) g mi mr Q := tw_x_iload_n td_144_148 rfl
theorem td_144_149 : decode (tw_cd 144) 149 = .ok (.iaload, 1) := by decide +kernel
theorem tz_144_149 : tw_E sc d 144 149 [x0, x1, x2, x3, x4] (.int v :: .ref a :: st) g mi mr Q = ((tw_kd g a = 20 ∧ vp_in v (tw_ln g a)) ∧ tw_E sc d 144 150 [x0, x1, x2, x3, x4] (.int (mi a v.toNatClampNeg) :: st) g mi mr Q) := tw_x_iald td_144_149
theorem td_144_150 : decode (tw_cd 144) 150 = .ok (.goto 23, 3) := by decide +kernel
theorem tz_144_150 : tw_E sc d 144 150 [x0, x1, x2, x3, x4] st g mi mr Q = tw_E sc d 144 173 [x0, x1, x2, x3, x4] st g mi mr Q := tw_x_goto td_144_150 (by decide)
theorem td_144_153 : decode (tw_cd 144) 153 = .ok (.iload_n 3, 1) := by decide +kernel
theorem tz_144_153 : tw_E sc d 144 153 [x0, x1, x2, some (.int v), x4] st g mi mr Q = tw_E sc d 144 154 [x0, x1, x2, some (.int v), x4] (.int v :: st) g mi mr Q := tw_x_iload_n td_144_153 rfl
theorem td_144_154 : decode (tw_cd 144) 154 = .ok (.iconst 3, 1) := by decide +kernel
theorem tz_144_154 : tw_E sc d 144 154 [x0, x1, x2, x3, x4] st g mi mr Q = tw_E sc d 144 155 [x0, x1, x2, x3, x4] (.int 3 :: st) g mi mr Q := tw_x_iconst td_144_154 (by decide)
theorem td_144_155 : decode (tw_cd 144) 155 = .ok (.if_icmp .ne 12, 3) := by decide +kernel
theorem tz_144_155 : tw_E sc d 144 155 [x0, x1, x2, x3, x4] (.int w :: .int v :: st) g mi mr Q = if ¬ v = w then tw_E sc d 144 167 [x0, x1, x2, x3, x4] st g mi mr Q else tw_E sc d 144 158 [x0, x1, x2, x3, x4] st g mi mr Q := tw_x_ic_ne td_144_155 (by decide)
theorem td_144_158 : decode (tw_cd 144) 158 = .ok (.aload_n 0, 1) := by decide +kernel
theorem tz_144_158 : tw_E sc d 144 158 [some (.ref a), x1, x2, x3, x4] st g mi mr Q = tw_E sc d 144 159 [some (.ref a), x1, x2, x3, x4] (.ref a :: st) g mi mr Q := tw_x_aload_n td_144_158 rfl
theorem td_144_159 : decode (tw_cd 144) 159 = .ok (.getfield 22, 3) := by decide +kernel
theorem tz_144_159 : tw_E sc d 144 159 [x0, x1, x2, x3, x4] (.ref a :: st) g mi mr Q = (tw_kd g a = 10 ∧ tw_E sc d 144 162 [x0, x1, x2, x3, x4] (va_rf (mr a 9) :: st) g mi mr Q) := tw_x_getr td_144_159 to_144 tf_10_22 (trf_10_9)
theorem td_144_162 : decode (tw_cd 144) 162 = .ok (.iload_n 1, 1) := by decide +kernel
theorem tz_144_162 : tw_E sc d 144 162 [x0, some (.int v), x2, x3, x4] st g mi mr Q = tw_E sc d 144 163 [x0, some (.int v), x2, x3, x4] (.int v :: st) g mi mr Q := tw_x_iload_n td_144_162 rfl
theorem td_144_163 : decode (tw_cd 144) 163 = .ok (.iaload, 1) := by decide +kernel
theorem tz_144_163 : tw_E sc d 144 163 [x0, x1, x2, x3, x4] (.int v :: .ref a :: st) g mi mr Q = ((tw_kd g a = 20 ∧ vp_in v (tw_ln g a)) ∧ tw_E sc d 144 164 [x0, x1, x2, x3, x4] (.int (mi a v.toNatClampNeg) :: st) g mi mr Q) := tw_x_iald td_144_163
theorem td_144_164 : decode (tw_cd 144) 164 = .ok (.goto 9, 3) := by decide +kernel
theorem tz_144_164 : tw_E sc d 144 164 [x0, x1, x2, x3, x4] st g mi mr Q = tw_E sc d 144 173 [x0, x1, x2, x3, x4] st g mi mr Q := tw_x_goto td_144_164 (by decide)
theorem td_144_167 : decode (tw_cd 144) 167 = .ok (.aload_n 0, 1) := by decide +kernel
theorem tz_144_167 : tw_E sc d 144 167 [some (.ref a), x1, x2, x3, x4] st g mi mr Q = tw_E sc d 144 168 [some (.ref a), x1, x2, x3, x4] (.ref a :: st) g mi mr Q := tw_x_aload_n td_144_167 rfl
theorem td_144_168 : decode (tw_cd 144) 168 = .ok (.getfield 25, 3) := by decide +kernel
theorem tz_144_168 : tw_E sc d 144 168 [x0, x1, x2, x3, x4] (.ref a :: st) g mi mr Q = (tw_kd g a = 10 ∧ tw_E sc d 144 171 [x0, x1, x2, x3, x4] (va_rf (mr a 10) :: st) g mi mr Q) := tw_x_getr td_144_168 to_144 tf_10_25 (trf_10_10)
theorem td_144_171 : decode (tw_cd 144) 171 = .ok (.iload_n 1, 1) := by decide +kernel
theorem tz_144_171 : tw_E sc d 144 171 [x0, some (.int v), x2, x3, x4] st g mi mr Q = tw_E sc d 144 172 [x0, some (.int v), x2, x3, x4] (.int v :: st) g mi mr Q := tw_x_iload_n td_144_171 rfl
theorem td_144_172 : decode (tw_cd 144) 172 = .ok (.iaload, 1) := by decide +kernel
theorem tz_144_172 : tw_E sc d 144 172 [x0, x1, x2, x3, x4] (.int v :: .ref a :: st) g mi mr Q = ((tw_kd g a = 20 ∧ vp_in v (tw_ln g a)) ∧ tw_E sc d 144 173 [x0, x1, x2, x3, x4] (.int (mi a v.toNatClampNeg) :: st) g mi mr Q) := tw_x_iald td_144_172
theorem td_144_173 : decode (tw_cd 144) 173 = .ok (.ireturn, 1) := by decide +kernel
theorem tz_144_173 : tw_E sc d 144 173 [x0, x1, x2, x3, x4] ([.int v]) g mi mr Q = Q (some (.int v)) g mi mr := tw_x_iret td_144_173 tr_144
end tz_144
-- 145: Mo_arm
section tz_145
variable {sc : Nat × (Nat → Int32)} {d : Nat} {x0 x1 : Option Value} {st : List Value} {g : tw_G} {mi : tw_I} {mr : tw_Q} {Q : Option Value → tw_G → tw_I → tw_Q → Prop} {v w u : Int32} {a b : Nat} {j h : Int64} {s1 s2 s3 s4 : Value}
theorem td_145_0 : decode (tw_cd 145) 0 = .ok (.aload_n 0, 1) := by decide +kernel
theorem tz_145_0 : tw_E sc d 145 0 [some (.ref a), x1] st g mi mr Q = tw_E sc d 145 1 [some (.ref a), x1] (.ref a :: st) g mi mr Q := tw_x_aload_n td_145_0 rfl
theorem td_145_1 : decode (tw_cd 145) 1 = .ok (.iconst 0, 1) := by decide +kernel
theorem tz_145_1 : tw_E sc d 145 1 [x0, x1] st g mi mr Q = tw_E sc d 145 2 [x0, x1] (.int 0 :: st) g mi mr Q := tw_x_iconst td_145_1 (by decide)
theorem td_145_2 : decode (tw_cd 145) 2 = .ok (.putfield 83, 3) := by decide +kernel
theorem tz_145_2 : tw_E sc d 145 2 [x0, x1] (.int v :: .ref a :: st) g mi mr Q = (tw_kd g a = 10 ∧ tw_E sc d 145 5 [x0, x1] st g (tw_st mi a (tw_st (mi a) 0 v)) mr Q) := tw_x_puti td_145_2 to_145 tf_10_83 rfl rfl
theorem td_145_5 : decode (tw_cd 145) 5 = .ok (.aload_n 0, 1) := by decide +kernel
theorem tz_145_5 : tw_E sc d 145 5 [some (.ref a), x1] st g mi mr Q = tw_E sc d 145 6 [some (.ref a), x1] (.ref a :: st) g mi mr Q := tw_x_aload_n td_145_5 rfl
theorem td_145_6 : decode (tw_cd 145) 6 = .ok (.getfield 179, 3) := by decide +kernel
theorem tz_145_6 : tw_E sc d 145 6 [x0, x1] (.ref a :: st) g mi mr Q = (tw_kd g a = 10 ∧ tw_E sc d 145 9 [x0, x1] (.int (mi a 4) :: st) g mi mr Q) := tw_x_geti td_145_6 to_145 tf_10_179 (trf_10_4)
theorem td_145_9 : decode (tw_cd 145) 9 = .ok (.ifCond .ne 6, 3) := by decide +kernel
theorem tz_145_9 : tw_E sc d 145 9 [x0, x1] (.int v :: st) g mi mr Q = if ¬ v = 0 then tw_E sc d 145 15 [x0, x1] st g mi mr Q else tw_E sc d 145 12 [x0, x1] st g mi mr Q := tw_x_if_ne td_145_9 (by decide)
theorem td_145_12 : decode (tw_cd 145) 12 = .ok (.bipush (-3), 2) := by decide +kernel
theorem tz_145_12 : tw_E sc d 145 12 [x0, x1] st g mi mr Q = tw_E sc d 145 14 [x0, x1] (.int (-3) :: st) g mi mr Q := tw_x_bipush td_145_12 (by decide)
theorem td_145_14 : decode (tw_cd 145) 14 = .ok (.ireturn, 1) := by decide +kernel
theorem tz_145_14 : tw_E sc d 145 14 [x0, x1] ([.int v]) g mi mr Q = Q (some (.int v)) g mi mr := tw_x_iret td_145_14 tr_145
theorem td_145_15 : decode (tw_cd 145) 15 = .ok (.aload_n 0, 1) := by decide +kernel
theorem tz_145_15 : tw_E sc d 145 15 [some (.ref a), x1] st g mi mr Q = tw_E sc d 145 16 [some (.ref a), x1] (.ref a :: st) g mi mr Q := tw_x_aload_n td_145_15 rfl
theorem td_145_16 : decode (tw_cd 145) 16 = .ok (.getfield 185, 3) := by decide +kernel
theorem tz_145_16 : tw_E sc d 145 16 [x0, x1] (.ref a :: st) g mi mr Q = (tw_kd g a = 10 ∧ tw_E sc d 145 19 [x0, x1] (.int (mi a 20) :: st) g mi mr Q) := tw_x_geti td_145_16 to_145 tf_10_185 (trf_10_20)
theorem td_145_19 : decode (tw_cd 145) 19 = .ok (.istore_n 1, 1) := by decide +kernel
theorem tz_145_19 : tw_E sc d 145 19 [x0, x1] (.int v :: st) g mi mr Q = tw_E sc d 145 20 [x0, some (.int v)] st g mi mr Q := tw_x_istore_n td_145_19 tp_145 rfl
theorem td_145_20 : decode (tw_cd 145) 20 = .ok (.aload_n 0, 1) := by decide +kernel
theorem tz_145_20 : tw_E sc d 145 20 [some (.ref a), x1] st g mi mr Q = tw_E sc d 145 21 [some (.ref a), x1] (.ref a :: st) g mi mr Q := tw_x_aload_n td_145_20 rfl
theorem td_145_21 : decode (tw_cd 145) 21 = .ok (.invokevirtual 183, 3) := by decide +kernel
theorem tz_145_21 : tw_E sc (d + 1) 145 21 [x0, x1] ([.ref a]) g mi mr Q = (tw_kd g a = 10 ∧ tw_E sc d 142 0 [some (.ref a), none] [] g mi mr (tw_K sc (d + 1) 145 24 [x0, x1] [] Q)) := tw_x_cv (as := []) (r := []) td_145_21 to_145 tc_10_183 to_142 rfl rfl rfl rfl
theorem td_145_24 : decode (tw_cd 145) 24 = .ok (.iload_n 1, 1) := by decide +kernel
theorem tz_145_24 : tw_E sc d 145 24 [x0, some (.int v)] st g mi mr Q = tw_E sc d 145 25 [x0, some (.int v)] (.int v :: st) g mi mr Q := tw_x_iload_n td_145_24 rfl
theorem td_145_25 : decode (tw_cd 145) 25 = .ok (.ireturn, 1) := by decide +kernel
theorem tz_145_25 : tw_E sc d 145 25 [x0, x1] ([.int v]) g mi mr Q = Q (some (.int v)) g mi mr := tw_x_iret td_145_25 tr_145
end tz_145
-- 146: Mo_bit
section tz_146
variable {sc : Nat × (Nat → Int32)} {d : Nat} {x0 x1 : Option Value} {st : List Value} {g : tw_G} {mi : tw_I} {mr : tw_Q} {Q : Option Value → tw_G → tw_I → tw_Q → Prop} {v w u : Int32} {a b : Nat} {j h : Int64} {s1 s2 s3 s4 : Value}
theorem td_146_0 : decode (tw_cd 146) 0 = .ok (.iload_n 0, 1) := by decide +kernel
theorem tz_146_0 : tw_E sc d 146 0 [some (.int v), x1] st g mi mr Q = tw_E sc d 146 1 [some (.int v), x1] (.int v :: st) g mi mr Q := tw_x_iload_n td_146_0 rfl
theorem td_146_1 : decode (tw_cd 146) 1 = .ok (.iload_n 1, 1) := by decide +kernel
theorem tz_146_1 : tw_E sc d 146 1 [x0, some (.int v)] st g mi mr Q = tw_E sc d 146 2 [x0, some (.int v)] (.int v :: st) g mi mr Q := tw_x_iload_n td_146_1 rfl
theorem td_146_2 : decode (tw_cd 146) 2 = .ok (.ishr, 1) := by decide +kernel
theorem tz_146_2 : tw_E sc d 146 2 [x0, x1] (.int w :: .int v :: st) g mi mr Q = tw_E sc d 146 3 [x0, x1] (.int (v >>> (w &&& 31)) :: st) g mi mr Q := tw_x_ishr td_146_2
theorem td_146_3 : decode (tw_cd 146) 3 = .ok (.iconst 1, 1) := by decide +kernel
theorem tz_146_3 : tw_E sc d 146 3 [x0, x1] st g mi mr Q = tw_E sc d 146 4 [x0, x1] (.int 1 :: st) g mi mr Q := tw_x_iconst td_146_3 (by decide)
theorem td_146_4 : decode (tw_cd 146) 4 = .ok (.iand, 1) := by decide +kernel
theorem tz_146_4 : tw_E sc d 146 4 [x0, x1] (.int w :: .int v :: st) g mi mr Q = tw_E sc d 146 5 [x0, x1] (.int (v &&& w) :: st) g mi mr Q := tw_x_iand td_146_4
theorem td_146_5 : decode (tw_cd 146) 5 = .ok (.ireturn, 1) := by decide +kernel
theorem tz_146_5 : tw_E sc d 146 5 [x0, x1] ([.int v]) g mi mr Q = Q (some (.int v)) g mi mr := tw_x_iret td_146_5 tr_146
end tz_146
-- 147: Mo_goesOn
section tz_147
variable {sc : Nat × (Nat → Int32)} {d : Nat} {x0 x1 x2 x3 x4 : Option Value} {st : List Value} {g : tw_G} {mi : tw_I} {mr : tw_Q} {Q : Option Value → tw_G → tw_I → tw_Q → Prop} {v w u : Int32} {a b : Nat} {j h : Int64} {s1 s2 s3 s4 : Value}
theorem td_147_0 : decode (tw_cd 147) 0 = .ok (.aload_n 0, 1) := by decide +kernel
theorem tz_147_0 : tw_E sc d 147 0 [some (.ref a), x1, x2, x3, x4] st g mi mr Q = tw_E sc d 147 1 [some (.ref a), x1, x2, x3, x4] (.ref a :: st) g mi mr Q := tw_x_aload_n td_147_0 rfl
theorem td_147_1 : decode (tw_cd 147) 1 = .ok (.getfield 13, 3) := by decide +kernel
theorem tz_147_1 : tw_E sc d 147 1 [x0, x1, x2, x3, x4] (.ref a :: st) g mi mr Q = (tw_kd g a = 10 ∧ tw_E sc d 147 4 [x0, x1, x2, x3, x4] (va_rf (mr a 6) :: st) g mi mr Q) := tw_x_getr td_147_1 to_147 tf_10_13 (trf_10_6)
theorem td_147_4 : decode (tw_cd 147) 4 = .ok (.iload_n 1, 1) := by decide +kernel
theorem tz_147_4 : tw_E sc d 147 4 [x0, some (.int v), x2, x3, x4] st g mi mr Q = tw_E sc d 147 5 [x0, some (.int v), x2, x3, x4] (.int v :: st) g mi mr Q := tw_x_iload_n td_147_4 rfl
theorem td_147_5 : decode (tw_cd 147) 5 = .ok (.iaload, 1) := by decide +kernel
theorem tz_147_5 : tw_E sc d 147 5 [x0, x1, x2, x3, x4] (.int v :: .ref a :: st) g mi mr Q = ((tw_kd g a = 20 ∧ vp_in v (tw_ln g a)) ∧ tw_E sc d 147 6 [x0, x1, x2, x3, x4] (.int (mi a v.toNatClampNeg) :: st) g mi mr Q) := tw_x_iald td_147_5
theorem td_147_6 : decode (tw_cd 147) 6 = .ok (.bipush 7, 2) := by decide +kernel
theorem tz_147_6 : tw_E sc d 147 6 [x0, x1, x2, x3, x4] st g mi mr Q = tw_E sc d 147 8 [x0, x1, x2, x3, x4] (.int 7 :: st) g mi mr Q := tw_x_bipush td_147_6 (by decide)
theorem td_147_8 : decode (tw_cd 147) 8 = .ok (.if_icmp .ne 7, 3) := by decide +kernel
theorem tz_147_8 : tw_E sc d 147 8 [x0, x1, x2, x3, x4] (.int w :: .int v :: st) g mi mr Q = if ¬ v = w then tw_E sc d 147 15 [x0, x1, x2, x3, x4] st g mi mr Q else tw_E sc d 147 11 [x0, x1, x2, x3, x4] st g mi mr Q := tw_x_ic_ne td_147_8 (by decide)
theorem td_147_11 : decode (tw_cd 147) 11 = .ok (.iconst 1, 1) := by decide +kernel
theorem tz_147_11 : tw_E sc d 147 11 [x0, x1, x2, x3, x4] st g mi mr Q = tw_E sc d 147 12 [x0, x1, x2, x3, x4] (.int 1 :: st) g mi mr Q := tw_x_iconst td_147_11 (by decide)
theorem td_147_12 : decode (tw_cd 147) 12 = .ok (.goto 4, 3) := by decide +kernel
theorem tz_147_12 : tw_E sc d 147 12 [x0, x1, x2, x3, x4] st g mi mr Q = tw_E sc d 147 16 [x0, x1, x2, x3, x4] st g mi mr Q := tw_x_goto td_147_12 (by decide)
theorem td_147_15 : decode (tw_cd 147) 15 = .ok (.iconst 0, 1) := by decide +kernel
theorem tz_147_15 : tw_E sc d 147 15 [x0, x1, x2, x3, x4] st g mi mr Q = tw_E sc d 147 16 [x0, x1, x2, x3, x4] (.int 0 :: st) g mi mr Q := tw_x_iconst td_147_15 (by decide)
theorem td_147_16 : decode (tw_cd 147) 16 = .ok (.istore_n 3, 1) := by decide +kernel
theorem tz_147_16 : tw_E sc d 147 16 [x0, x1, x2, x3, x4] (.int v :: st) g mi mr Q = tw_E sc d 147 17 [x0, x1, x2, some (.int v), x4] st g mi mr Q := tw_x_istore_n td_147_16 tp_147 rfl
theorem td_147_17 : decode (tw_cd 147) 17 = .ok (.iload_n 3, 1) := by decide +kernel
theorem tz_147_17 : tw_E sc d 147 17 [x0, x1, x2, some (.int v), x4] st g mi mr Q = tw_E sc d 147 18 [x0, x1, x2, some (.int v), x4] (.int v :: st) g mi mr Q := tw_x_iload_n td_147_17 rfl
theorem td_147_18 : decode (tw_cd 147) 18 = .ok (.ifCond .eq 39, 3) := by decide +kernel
theorem tz_147_18 : tw_E sc d 147 18 [x0, x1, x2, x3, x4] (.int v :: st) g mi mr Q = if v = 0 then tw_E sc d 147 57 [x0, x1, x2, x3, x4] st g mi mr Q else tw_E sc d 147 21 [x0, x1, x2, x3, x4] st g mi mr Q := tw_x_if_eq td_147_18 (by decide)
theorem td_147_21 : decode (tw_cd 147) 21 = .ok (.aload_n 0, 1) := by decide +kernel
theorem tz_147_21 : tw_E sc d 147 21 [some (.ref a), x1, x2, x3, x4] st g mi mr Q = tw_E sc d 147 22 [some (.ref a), x1, x2, x3, x4] (.ref a :: st) g mi mr Q := tw_x_aload_n td_147_21 rfl
theorem td_147_22 : decode (tw_cd 147) 22 = .ok (.getfield 50, 3) := by decide +kernel
theorem tz_147_22 : tw_E sc d 147 22 [x0, x1, x2, x3, x4] (.ref a :: st) g mi mr Q = (tw_kd g a = 10 ∧ tw_E sc d 147 25 [x0, x1, x2, x3, x4] (va_rf (mr a 19) :: st) g mi mr Q) := tw_x_getr td_147_22 to_147 tf_10_50 (trf_10_19)
theorem td_147_25 : decode (tw_cd 147) 25 = .ok (.iload_n 1, 1) := by decide +kernel
theorem tz_147_25 : tw_E sc d 147 25 [x0, some (.int v), x2, x3, x4] st g mi mr Q = tw_E sc d 147 26 [x0, some (.int v), x2, x3, x4] (.int v :: st) g mi mr Q := tw_x_iload_n td_147_25 rfl
theorem td_147_26 : decode (tw_cd 147) 26 = .ok (.iaload, 1) := by decide +kernel
theorem tz_147_26 : tw_E sc d 147 26 [x0, x1, x2, x3, x4] (.int v :: .ref a :: st) g mi mr Q = ((tw_kd g a = 20 ∧ vp_in v (tw_ln g a)) ∧ tw_E sc d 147 27 [x0, x1, x2, x3, x4] (.int (mi a v.toNatClampNeg) :: st) g mi mr Q) := tw_x_iald td_147_26
theorem td_147_27 : decode (tw_cd 147) 27 = .ok (.bipush (-9), 2) := by decide +kernel
theorem tz_147_27 : tw_E sc d 147 27 [x0, x1, x2, x3, x4] st g mi mr Q = tw_E sc d 147 29 [x0, x1, x2, x3, x4] (.int (-9) :: st) g mi mr Q := tw_x_bipush td_147_27 (by decide)
theorem td_147_29 : decode (tw_cd 147) 29 = .ok (.if_icmp .eq 28, 3) := by decide +kernel
theorem tz_147_29 : tw_E sc d 147 29 [x0, x1, x2, x3, x4] (.int w :: .int v :: st) g mi mr Q = if v = w then tw_E sc d 147 57 [x0, x1, x2, x3, x4] st g mi mr Q else tw_E sc d 147 32 [x0, x1, x2, x3, x4] st g mi mr Q := tw_x_ic_eq td_147_29 (by decide)
theorem td_147_32 : decode (tw_cd 147) 32 = .ok (.iload_n 2, 1) := by decide +kernel
theorem tz_147_32 : tw_E sc d 147 32 [x0, x1, some (.int v), x3, x4] st g mi mr Q = tw_E sc d 147 33 [x0, x1, some (.int v), x3, x4] (.int v :: st) g mi mr Q := tw_x_iload_n td_147_32 rfl
theorem td_147_33 : decode (tw_cd 147) 33 = .ok (.aload_n 0, 1) := by decide +kernel
theorem tz_147_33 : tw_E sc d 147 33 [some (.ref a), x1, x2, x3, x4] st g mi mr Q = tw_E sc d 147 34 [some (.ref a), x1, x2, x3, x4] (.ref a :: st) g mi mr Q := tw_x_aload_n td_147_33 rfl
theorem td_147_34 : decode (tw_cd 147) 34 = .ok (.getfield 50, 3) := by decide +kernel
theorem tz_147_34 : tw_E sc d 147 34 [x0, x1, x2, x3, x4] (.ref a :: st) g mi mr Q = (tw_kd g a = 10 ∧ tw_E sc d 147 37 [x0, x1, x2, x3, x4] (va_rf (mr a 19) :: st) g mi mr Q) := tw_x_getr td_147_34 to_147 tf_10_50 (trf_10_19)
theorem td_147_37 : decode (tw_cd 147) 37 = .ok (.iload_n 1, 1) := by decide +kernel
theorem tz_147_37 : tw_E sc d 147 37 [x0, some (.int v), x2, x3, x4] st g mi mr Q = tw_E sc d 147 38 [x0, some (.int v), x2, x3, x4] (.int v :: st) g mi mr Q := tw_x_iload_n td_147_37 rfl
theorem td_147_38 : decode (tw_cd 147) 38 = .ok (.iaload, 1) := by decide +kernel
theorem tz_147_38 : tw_E sc d 147 38 [x0, x1, x2, x3, x4] (.int v :: .ref a :: st) g mi mr Q = ((tw_kd g a = 20 ∧ vp_in v (tw_ln g a)) ∧ tw_E sc d 147 39 [x0, x1, x2, x3, x4] (.int (mi a v.toNatClampNeg) :: st) g mi mr Q) := tw_x_iald td_147_38
theorem td_147_39 : decode (tw_cd 147) 39 = .ok (.isub, 1) := by decide +kernel
theorem tz_147_39 : tw_E sc d 147 39 [x0, x1, x2, x3, x4] (.int w :: .int v :: st) g mi mr Q = tw_E sc d 147 40 [x0, x1, x2, x3, x4] (.int (v - w) :: st) g mi mr Q := tw_x_isub td_147_39
theorem td_147_40 : decode (tw_cd 147) 40 = .ok (.aload_n 0, 1) := by decide +kernel
theorem tz_147_40 : tw_E sc d 147 40 [some (.ref a), x1, x2, x3, x4] st g mi mr Q = tw_E sc d 147 41 [some (.ref a), x1, x2, x3, x4] (.ref a :: st) g mi mr Q := tw_x_aload_n td_147_40 rfl
theorem td_147_41 : decode (tw_cd 147) 41 = .ok (.getfield 25, 3) := by decide +kernel
theorem tz_147_41 : tw_E sc d 147 41 [x0, x1, x2, x3, x4] (.ref a :: st) g mi mr Q = (tw_kd g a = 10 ∧ tw_E sc d 147 44 [x0, x1, x2, x3, x4] (va_rf (mr a 10) :: st) g mi mr Q) := tw_x_getr td_147_41 to_147 tf_10_25 (trf_10_10)
theorem td_147_44 : decode (tw_cd 147) 44 = .ok (.iload_n 1, 1) := by decide +kernel
theorem tz_147_44 : tw_E sc d 147 44 [x0, some (.int v), x2, x3, x4] st g mi mr Q = tw_E sc d 147 45 [x0, some (.int v), x2, x3, x4] (.int v :: st) g mi mr Q := tw_x_iload_n td_147_44 rfl
theorem td_147_45 : decode (tw_cd 147) 45 = .ok (.iaload, 1) := by decide +kernel
theorem tz_147_45 : tw_E sc d 147 45 [x0, x1, x2, x3, x4] (.int v :: .ref a :: st) g mi mr Q = ((tw_kd g a = 20 ∧ vp_in v (tw_ln g a)) ∧ tw_E sc d 147 46 [x0, x1, x2, x3, x4] (.int (mi a v.toNatClampNeg) :: st) g mi mr Q) := tw_x_iald td_147_45
theorem td_147_46 : decode (tw_cd 147) 46 = .ok (.if_icmp .le 11, 3) := by decide +kernel
theorem tz_147_46 : tw_E sc d 147 46 [x0, x1, x2, x3, x4] (.int w :: .int v :: st) g mi mr Q = if v ≤ w then tw_E sc d 147 57 [x0, x1, x2, x3, x4] st g mi mr Q else tw_E sc d 147 49 [x0, x1, x2, x3, x4] st g mi mr Q := tw_x_ic_le td_147_46 (by decide)
theorem td_147_49 : decode (tw_cd 147) 49 = .ok (.aload_n 0, 1) := by decide +kernel
theorem tz_147_49 : tw_E sc d 147 49 [some (.ref a), x1, x2, x3, x4] st g mi mr Q = tw_E sc d 147 50 [some (.ref a), x1, x2, x3, x4] (.ref a :: st) g mi mr Q := tw_x_aload_n td_147_49 rfl
theorem td_147_50 : decode (tw_cd 147) 50 = .ok (.getfield 50, 3) := by decide +kernel
theorem tz_147_50 : tw_E sc d 147 50 [x0, x1, x2, x3, x4] (.ref a :: st) g mi mr Q = (tw_kd g a = 10 ∧ tw_E sc d 147 53 [x0, x1, x2, x3, x4] (va_rf (mr a 19) :: st) g mi mr Q) := tw_x_getr td_147_50 to_147 tf_10_50 (trf_10_19)
theorem td_147_53 : decode (tw_cd 147) 53 = .ok (.iload_n 1, 1) := by decide +kernel
theorem tz_147_53 : tw_E sc d 147 53 [x0, some (.int v), x2, x3, x4] st g mi mr Q = tw_E sc d 147 54 [x0, some (.int v), x2, x3, x4] (.int v :: st) g mi mr Q := tw_x_iload_n td_147_53 rfl
theorem td_147_54 : decode (tw_cd 147) 54 = .ok (.bipush (-9), 2) := by decide +kernel
theorem tz_147_54 : tw_E sc d 147 54 [x0, x1, x2, x3, x4] st g mi mr Q = tw_E sc d 147 56 [x0, x1, x2, x3, x4] (.int (-9) :: st) g mi mr Q := tw_x_bipush td_147_54 (by decide)
theorem td_147_56 : decode (tw_cd 147) 56 = .ok (.iastore, 1) := by decide +kernel
theorem tz_147_56 : tw_E sc d 147 56 [x0, x1, x2, x3, x4] (.int w :: .int v :: .ref a :: st) g mi mr Q = ((tw_kd g a = 20 ∧ vp_in v (tw_ln g a)) ∧ tw_E sc d 147 57 [x0, x1, x2, x3, x4] st g (tw_st mi a (tw_st (mi a) v.toNatClampNeg w)) mr Q) := tw_x_iast td_147_56
theorem td_147_57 : decode (tw_cd 147) 57 = .ok (.aload_n 0, 1) := by decide +kernel
theorem tz_147_57 : tw_E sc d 147 57 [some (.ref a), x1, x2, x3, x4] st g mi mr Q = tw_E sc d 147 58 [some (.ref a), x1, x2, x3, x4] (.ref a :: st) g mi mr Q := tw_x_aload_n td_147_57 rfl
theorem td_147_58 : decode (tw_cd 147) 58 = .ok (.getfield 50, 3) := by decide +kernel
theorem tz_147_58 : tw_E sc d 147 58 [x0, x1, x2, x3, x4] (.ref a :: st) g mi mr Q = (tw_kd g a = 10 ∧ tw_E sc d 147 61 [x0, x1, x2, x3, x4] (va_rf (mr a 19) :: st) g mi mr Q) := tw_x_getr td_147_58 to_147 tf_10_50 (trf_10_19)
theorem td_147_61 : decode (tw_cd 147) 61 = .ok (.iload_n 1, 1) := by decide +kernel
theorem tz_147_61 : tw_E sc d 147 61 [x0, some (.int v), x2, x3, x4] st g mi mr Q = tw_E sc d 147 62 [x0, some (.int v), x2, x3, x4] (.int v :: st) g mi mr Q := tw_x_iload_n td_147_61 rfl
theorem td_147_62 : decode (tw_cd 147) 62 = .ok (.iaload, 1) := by decide +kernel
theorem tz_147_62 : tw_E sc d 147 62 [x0, x1, x2, x3, x4] (.int v :: .ref a :: st) g mi mr Q = ((tw_kd g a = 20 ∧ vp_in v (tw_ln g a)) ∧ tw_E sc d 147 63 [x0, x1, x2, x3, x4] (.int (mi a v.toNatClampNeg) :: st) g mi mr Q) := tw_x_iald td_147_62
theorem td_147_63 : decode (tw_cd 147) 63 = .ok (.bipush (-9), 2) := by decide +kernel
theorem tz_147_63 : tw_E sc d 147 63 [x0, x1, x2, x3, x4] st g mi mr Q = tw_E sc d 147 65 [x0, x1, x2, x3, x4] (.int (-9) :: st) g mi mr Q := tw_x_bipush td_147_63 (by decide)
theorem td_147_65 : decode (tw_cd 147) 65 = .ok (.if_icmp .eq 7, 3) := by decide +kernel
theorem tz_147_65 : tw_E sc d 147 65 [x0, x1, x2, x3, x4] (.int w :: .int v :: st) g mi mr Q = if v = w then tw_E sc d 147 72 [x0, x1, x2, x3, x4] st g mi mr Q else tw_E sc d 147 68 [x0, x1, x2, x3, x4] st g mi mr Q := tw_x_ic_eq td_147_65 (by decide)
theorem td_147_68 : decode (tw_cd 147) 68 = .ok (.iconst 1, 1) := by decide +kernel
theorem tz_147_68 : tw_E sc d 147 68 [x0, x1, x2, x3, x4] st g mi mr Q = tw_E sc d 147 69 [x0, x1, x2, x3, x4] (.int 1 :: st) g mi mr Q := tw_x_iconst td_147_68 (by decide)
theorem td_147_69 : decode (tw_cd 147) 69 = .ok (.goto 4, 3) := by decide +kernel
theorem tz_147_69 : tw_E sc d 147 69 [x0, x1, x2, x3, x4] st g mi mr Q = tw_E sc d 147 73 [x0, x1, x2, x3, x4] st g mi mr Q := tw_x_goto td_147_69 (by decide)
theorem td_147_72 : decode (tw_cd 147) 72 = .ok (.iconst 0, 1) := by decide +kernel
theorem tz_147_72 : tw_E sc d 147 72 [x0, x1, x2, x3, x4] st g mi mr Q = tw_E sc d 147 73 [x0, x1, x2, x3, x4] (.int 0 :: st) g mi mr Q := tw_x_iconst td_147_72 (by decide)
theorem td_147_73 : decode (tw_cd 147) 73 = .ok (.istore 4, 2) := by decide +kernel
theorem tz_147_73 : tw_E sc d 147 73 [x0, x1, x2, x3, x4] (.int v :: st) g mi mr Q = tw_E sc d 147 75 [x0, x1, x2, x3, some (.int v)] st g mi mr Q := tw_x_istore td_147_73 tp_147 rfl
theorem td_147_75 : decode (tw_cd 147) 75 = .ok (.iload 4, 2) := by decide +kernel
theorem tz_147_75 : tw_E sc d 147 75 [x0, x1, x2, x3, some (.int v)] st g mi mr Q = tw_E sc d 147 77 [x0, x1, x2, x3, some (.int v)] (.int v :: st) g mi mr Q := tw_x_iload td_147_75 rfl
theorem td_147_77 : decode (tw_cd 147) 77 = .ok (.ifCond .eq 48, 3) := by decide +kernel
theorem tz_147_77 : tw_E sc d 147 77 [x0, x1, x2, x3, x4] (.int v :: st) g mi mr Q = if v = 0 then tw_E sc d 147 125 [x0, x1, x2, x3, x4] st g mi mr Q else tw_E sc d 147 80 [x0, x1, x2, x3, x4] st g mi mr Q := tw_x_if_eq td_147_77 (by decide)
theorem td_147_80 : decode (tw_cd 147) 80 = .ok (.iload_n 3, 1) := by decide +kernel
theorem tz_147_80 : tw_E sc d 147 80 [x0, x1, x2, some (.int v), x4] st g mi mr Q = tw_E sc d 147 81 [x0, x1, x2, some (.int v), x4] (.int v :: st) g mi mr Q := tw_x_iload_n td_147_80 rfl
theorem td_147_81 : decode (tw_cd 147) 81 = .ok (.ifCond .eq 20, 3) := by decide +kernel
theorem tz_147_81 : tw_E sc d 147 81 [x0, x1, x2, x3, x4] (.int v :: st) g mi mr Q = if v = 0 then tw_E sc d 147 101 [x0, x1, x2, x3, x4] st g mi mr Q else tw_E sc d 147 84 [x0, x1, x2, x3, x4] st g mi mr Q := tw_x_if_eq td_147_81 (by decide)
theorem td_147_84 : decode (tw_cd 147) 84 = .ok (.iload_n 2, 1) := by decide +kernel
theorem tz_147_84 : tw_E sc d 147 84 [x0, x1, some (.int v), x3, x4] st g mi mr Q = tw_E sc d 147 85 [x0, x1, some (.int v), x3, x4] (.int v :: st) g mi mr Q := tw_x_iload_n td_147_84 rfl
theorem td_147_85 : decode (tw_cd 147) 85 = .ok (.aload_n 0, 1) := by decide +kernel
theorem tz_147_85 : tw_E sc d 147 85 [some (.ref a), x1, x2, x3, x4] st g mi mr Q = tw_E sc d 147 86 [some (.ref a), x1, x2, x3, x4] (.ref a :: st) g mi mr Q := tw_x_aload_n td_147_85 rfl
theorem td_147_86 : decode (tw_cd 147) 86 = .ok (.getfield 50, 3) := by decide +kernel
theorem tz_147_86 : tw_E sc d 147 86 [x0, x1, x2, x3, x4] (.ref a :: st) g mi mr Q = (tw_kd g a = 10 ∧ tw_E sc d 147 89 [x0, x1, x2, x3, x4] (va_rf (mr a 19) :: st) g mi mr Q) := tw_x_getr td_147_86 to_147 tf_10_50 (trf_10_19)
theorem td_147_89 : decode (tw_cd 147) 89 = .ok (.iload_n 1, 1) := by decide +kernel
theorem tz_147_89 : tw_E sc d 147 89 [x0, some (.int v), x2, x3, x4] st g mi mr Q = tw_E sc d 147 90 [x0, some (.int v), x2, x3, x4] (.int v :: st) g mi mr Q := tw_x_iload_n td_147_89 rfl
theorem td_147_90 : decode (tw_cd 147) 90 = .ok (.iaload, 1) := by decide +kernel
theorem tz_147_90 : tw_E sc d 147 90 [x0, x1, x2, x3, x4] (.int v :: .ref a :: st) g mi mr Q = ((tw_kd g a = 20 ∧ vp_in v (tw_ln g a)) ∧ tw_E sc d 147 91 [x0, x1, x2, x3, x4] (.int (mi a v.toNatClampNeg) :: st) g mi mr Q) := tw_x_iald td_147_90
theorem td_147_91 : decode (tw_cd 147) 91 = .ok (.isub, 1) := by decide +kernel
theorem tz_147_91 : tw_E sc d 147 91 [x0, x1, x2, x3, x4] (.int w :: .int v :: st) g mi mr Q = tw_E sc d 147 92 [x0, x1, x2, x3, x4] (.int (v - w) :: st) g mi mr Q := tw_x_isub td_147_91
theorem td_147_92 : decode (tw_cd 147) 92 = .ok (.aload_n 0, 1) := by decide +kernel
theorem tz_147_92 : tw_E sc d 147 92 [some (.ref a), x1, x2, x3, x4] st g mi mr Q = tw_E sc d 147 93 [some (.ref a), x1, x2, x3, x4] (.ref a :: st) g mi mr Q := tw_x_aload_n td_147_92 rfl
theorem td_147_93 : decode (tw_cd 147) 93 = .ok (.getfield 22, 3) := by decide +kernel
theorem tz_147_93 : tw_E sc d 147 93 [x0, x1, x2, x3, x4] (.ref a :: st) g mi mr Q = (tw_kd g a = 10 ∧ tw_E sc d 147 96 [x0, x1, x2, x3, x4] (va_rf (mr a 9) :: st) g mi mr Q) := tw_x_getr td_147_93 to_147 tf_10_22 (trf_10_9)
theorem td_147_96 : decode (tw_cd 147) 96 = .ok (.iload_n 1, 1) := by decide +kernel
theorem tz_147_96 : tw_E sc d 147 96 [x0, some (.int v), x2, x3, x4] st g mi mr Q = tw_E sc d 147 97 [x0, some (.int v), x2, x3, x4] (.int v :: st) g mi mr Q := tw_x_iload_n td_147_96 rfl
theorem td_147_97 : decode (tw_cd 147) 97 = .ok (.iaload, 1) := by decide +kernel
theorem tz_147_97 : tw_E sc d 147 97 [x0, x1, x2, x3, x4] (.int v :: .ref a :: st) g mi mr Q = ((tw_kd g a = 20 ∧ vp_in v (tw_ln g a)) ∧ tw_E sc d 147 98 [x0, x1, x2, x3, x4] (.int (mi a v.toNatClampNeg) :: st) g mi mr Q) := tw_x_iald td_147_97
theorem td_147_98 : decode (tw_cd 147) 98 = .ok (.if_icmp .lt 27, 3) := by decide +kernel
theorem tz_147_98 : tw_E sc d 147 98 [x0, x1, x2, x3, x4] (.int w :: .int v :: st) g mi mr Q = if v < w then tw_E sc d 147 125 [x0, x1, x2, x3, x4] st g mi mr Q else tw_E sc d 147 101 [x0, x1, x2, x3, x4] st g mi mr Q := tw_x_ic_lt td_147_98 (by decide)
theorem td_147_101 : decode (tw_cd 147) 101 = .ok (.aload_n 0, 1) := by decide +kernel
theorem tz_147_101 : tw_E sc d 147 101 [some (.ref a), x1, x2, x3, x4] st g mi mr Q = tw_E sc d 147 102 [some (.ref a), x1, x2, x3, x4] (.ref a :: st) g mi mr Q := tw_x_aload_n td_147_101 rfl
theorem td_147_102 : decode (tw_cd 147) 102 = .ok (.getfield 43, 3) := by decide +kernel
theorem tz_147_102 : tw_E sc d 147 102 [x0, x1, x2, x3, x4] (.ref a :: st) g mi mr Q = (tw_kd g a = 10 ∧ tw_E sc d 147 105 [x0, x1, x2, x3, x4] (va_rf (mr a 17) :: st) g mi mr Q) := tw_x_getr td_147_102 to_147 tf_10_43 (trf_10_17)
theorem td_147_105 : decode (tw_cd 147) 105 = .ok (.aload_n 0, 1) := by decide +kernel
theorem tz_147_105 : tw_E sc d 147 105 [some (.ref a), x1, x2, x3, x4] st g mi mr Q = tw_E sc d 147 106 [some (.ref a), x1, x2, x3, x4] (.ref a :: st) g mi mr Q := tw_x_aload_n td_147_105 rfl
theorem td_147_106 : decode (tw_cd 147) 106 = .ok (.getfield 19, 3) := by decide +kernel
theorem tz_147_106 : tw_E sc d 147 106 [x0, x1, x2, x3, x4] (.ref a :: st) g mi mr Q = (tw_kd g a = 10 ∧ tw_E sc d 147 109 [x0, x1, x2, x3, x4] (va_rf (mr a 8) :: st) g mi mr Q) := tw_x_getr td_147_106 to_147 tf_10_19 (trf_10_8)
theorem td_147_109 : decode (tw_cd 147) 109 = .ok (.iload_n 1, 1) := by decide +kernel
theorem tz_147_109 : tw_E sc d 147 109 [x0, some (.int v), x2, x3, x4] st g mi mr Q = tw_E sc d 147 110 [x0, some (.int v), x2, x3, x4] (.int v :: st) g mi mr Q := tw_x_iload_n td_147_109 rfl
theorem td_147_110 : decode (tw_cd 147) 110 = .ok (.iaload, 1) := by decide +kernel
theorem tz_147_110 : tw_E sc d 147 110 [x0, x1, x2, x3, x4] (.int v :: .ref a :: st) g mi mr Q = ((tw_kd g a = 20 ∧ vp_in v (tw_ln g a)) ∧ tw_E sc d 147 111 [x0, x1, x2, x3, x4] (.int (mi a v.toNatClampNeg) :: st) g mi mr Q) := tw_x_iald td_147_110
theorem td_147_111 : decode (tw_cd 147) 111 = .ok (.baload, 1) := by decide +kernel
theorem tz_147_111 : tw_E sc d 147 111 [x0, x1, x2, x3, x4] (.int v :: .ref a :: st) g mi mr Q = ((tw_kd g a = 21 ∧ vp_in v (tw_ln g a)) ∧ tw_E sc d 147 112 [x0, x1, x2, x3, x4] (.int (mi a v.toNatClampNeg) :: st) g mi mr Q) := tw_x_zald td_147_111
theorem td_147_112 : decode (tw_cd 147) 112 = .ok (.ifCond .eq 13, 3) := by decide +kernel
theorem tz_147_112 : tw_E sc d 147 112 [x0, x1, x2, x3, x4] (.int v :: st) g mi mr Q = if v = 0 then tw_E sc d 147 125 [x0, x1, x2, x3, x4] st g mi mr Q else tw_E sc d 147 115 [x0, x1, x2, x3, x4] st g mi mr Q := tw_x_if_eq td_147_112 (by decide)
theorem td_147_115 : decode (tw_cd 147) 115 = .ok (.aload_n 0, 1) := by decide +kernel
theorem tz_147_115 : tw_E sc d 147 115 [some (.ref a), x1, x2, x3, x4] st g mi mr Q = tw_E sc d 147 116 [some (.ref a), x1, x2, x3, x4] (.ref a :: st) g mi mr Q := tw_x_aload_n td_147_115 rfl
theorem td_147_116 : decode (tw_cd 147) 116 = .ok (.getfield 50, 3) := by decide +kernel
theorem tz_147_116 : tw_E sc d 147 116 [x0, x1, x2, x3, x4] (.ref a :: st) g mi mr Q = (tw_kd g a = 10 ∧ tw_E sc d 147 119 [x0, x1, x2, x3, x4] (va_rf (mr a 19) :: st) g mi mr Q) := tw_x_getr td_147_116 to_147 tf_10_50 (trf_10_19)
theorem td_147_119 : decode (tw_cd 147) 119 = .ok (.iload_n 1, 1) := by decide +kernel
theorem tz_147_119 : tw_E sc d 147 119 [x0, some (.int v), x2, x3, x4] st g mi mr Q = tw_E sc d 147 120 [x0, some (.int v), x2, x3, x4] (.int v :: st) g mi mr Q := tw_x_iload_n td_147_119 rfl
theorem td_147_120 : decode (tw_cd 147) 120 = .ok (.bipush (-9), 2) := by decide +kernel
theorem tz_147_120 : tw_E sc d 147 120 [x0, x1, x2, x3, x4] st g mi mr Q = tw_E sc d 147 122 [x0, x1, x2, x3, x4] (.int (-9) :: st) g mi mr Q := tw_x_bipush td_147_120 (by decide)
theorem td_147_122 : decode (tw_cd 147) 122 = .ok (.iastore, 1) := by decide +kernel
theorem tz_147_122 : tw_E sc d 147 122 [x0, x1, x2, x3, x4] (.int w :: .int v :: .ref a :: st) g mi mr Q = ((tw_kd g a = 20 ∧ vp_in v (tw_ln g a)) ∧ tw_E sc d 147 123 [x0, x1, x2, x3, x4] st g (tw_st mi a (tw_st (mi a) v.toNatClampNeg w)) mr Q) := tw_x_iast td_147_122
theorem td_147_123 : decode (tw_cd 147) 123 = .ok (.iconst 1, 1) := by decide +kernel
theorem tz_147_123 : tw_E sc d 147 123 [x0, x1, x2, x3, x4] st g mi mr Q = tw_E sc d 147 124 [x0, x1, x2, x3, x4] (.int 1 :: st) g mi mr Q := tw_x_iconst td_147_123 (by decide)
theorem td_147_124 : decode (tw_cd 147) 124 = .ok (.ireturn, 1) := by decide +kernel
theorem tz_147_124 : tw_E sc d 147 124 [x0, x1, x2, x3, x4] ([.int v]) g mi mr Q = ((v = 0 ∨ v = 1) ∧ Q (some (.int v)) g mi mr) := tw_x_zret td_147_124 tr_147
theorem td_147_125 : decode (tw_cd 147) 125 = .ok (.iload 4, 2) := by decide +kernel
theorem tz_147_125 : tw_E sc d 147 125 [x0, x1, x2, x3, some (.int v)] st g mi mr Q = tw_E sc d 147 127 [x0, x1, x2, x3, some (.int v)] (.int v :: st) g mi mr Q := tw_x_iload td_147_125 rfl
theorem td_147_127 : decode (tw_cd 147) 127 = .ok (.ifCond .ne 24, 3) := by decide +kernel
theorem tz_147_127 : tw_E sc d 147 127 [x0, x1, x2, x3, x4] (.int v :: st) g mi mr Q = if ¬ v = 0 then tw_E sc d 147 151 [x0, x1, x2, x3, x4] st g mi mr Q else tw_E sc d 147 130 [x0, x1, x2, x3, x4] st g mi mr Q := tw_x_if_ne td_147_127 (by decide)
theorem td_147_130 : decode (tw_cd 147) 130 = .ok (.aload_n 0, 1) := by decide +kernel
theorem tz_147_130 : tw_E sc d 147 130 [some (.ref a), x1, x2, x3, x4] st g mi mr Q = tw_E sc d 147 131 [some (.ref a), x1, x2, x3, x4] (.ref a :: st) g mi mr Q := tw_x_aload_n td_147_130 rfl
theorem td_147_131 : decode (tw_cd 147) 131 = .ok (.getfield 43, 3) := by decide +kernel
theorem tz_147_131 : tw_E sc d 147 131 [x0, x1, x2, x3, x4] (.ref a :: st) g mi mr Q = (tw_kd g a = 10 ∧ tw_E sc d 147 134 [x0, x1, x2, x3, x4] (va_rf (mr a 17) :: st) g mi mr Q) := tw_x_getr td_147_131 to_147 tf_10_43 (trf_10_17)
theorem td_147_134 : decode (tw_cd 147) 134 = .ok (.aload_n 0, 1) := by decide +kernel
theorem tz_147_134 : tw_E sc d 147 134 [some (.ref a), x1, x2, x3, x4] st g mi mr Q = tw_E sc d 147 135 [some (.ref a), x1, x2, x3, x4] (.ref a :: st) g mi mr Q := tw_x_aload_n td_147_134 rfl
theorem td_147_135 : decode (tw_cd 147) 135 = .ok (.getfield 16, 3) := by decide +kernel
theorem tz_147_135 : tw_E sc d 147 135 [x0, x1, x2, x3, x4] (.ref a :: st) g mi mr Q = (tw_kd g a = 10 ∧ tw_E sc d 147 138 [x0, x1, x2, x3, x4] (va_rf (mr a 7) :: st) g mi mr Q) := tw_x_getr td_147_135 to_147 tf_10_16 (trf_10_7)
theorem td_147_138 : decode (tw_cd 147) 138 = .ok (.iload_n 1, 1) := by decide +kernel
theorem tz_147_138 : tw_E sc d 147 138 [x0, some (.int v), x2, x3, x4] st g mi mr Q = tw_E sc d 147 139 [x0, some (.int v), x2, x3, x4] (.int v :: st) g mi mr Q := tw_x_iload_n td_147_138 rfl
theorem td_147_139 : decode (tw_cd 147) 139 = .ok (.iaload, 1) := by decide +kernel
theorem tz_147_139 : tw_E sc d 147 139 [x0, x1, x2, x3, x4] (.int v :: .ref a :: st) g mi mr Q = ((tw_kd g a = 20 ∧ vp_in v (tw_ln g a)) ∧ tw_E sc d 147 140 [x0, x1, x2, x3, x4] (.int (mi a v.toNatClampNeg) :: st) g mi mr Q) := tw_x_iald td_147_139
theorem td_147_140 : decode (tw_cd 147) 140 = .ok (.baload, 1) := by decide +kernel
theorem tz_147_140 : tw_E sc d 147 140 [x0, x1, x2, x3, x4] (.int v :: .ref a :: st) g mi mr Q = ((tw_kd g a = 21 ∧ vp_in v (tw_ln g a)) ∧ tw_E sc d 147 141 [x0, x1, x2, x3, x4] (.int (mi a v.toNatClampNeg) :: st) g mi mr Q) := tw_x_zald td_147_140
theorem td_147_141 : decode (tw_cd 147) 141 = .ok (.ifCond .eq 10, 3) := by decide +kernel
theorem tz_147_141 : tw_E sc d 147 141 [x0, x1, x2, x3, x4] (.int v :: st) g mi mr Q = if v = 0 then tw_E sc d 147 151 [x0, x1, x2, x3, x4] st g mi mr Q else tw_E sc d 147 144 [x0, x1, x2, x3, x4] st g mi mr Q := tw_x_if_eq td_147_141 (by decide)
theorem td_147_144 : decode (tw_cd 147) 144 = .ok (.aload_n 0, 1) := by decide +kernel
theorem tz_147_144 : tw_E sc d 147 144 [some (.ref a), x1, x2, x3, x4] st g mi mr Q = tw_E sc d 147 145 [some (.ref a), x1, x2, x3, x4] (.ref a :: st) g mi mr Q := tw_x_aload_n td_147_144 rfl
theorem td_147_145 : decode (tw_cd 147) 145 = .ok (.getfield 50, 3) := by decide +kernel
theorem tz_147_145 : tw_E sc d 147 145 [x0, x1, x2, x3, x4] (.ref a :: st) g mi mr Q = (tw_kd g a = 10 ∧ tw_E sc d 147 148 [x0, x1, x2, x3, x4] (va_rf (mr a 19) :: st) g mi mr Q) := tw_x_getr td_147_145 to_147 tf_10_50 (trf_10_19)
theorem td_147_148 : decode (tw_cd 147) 148 = .ok (.iload_n 1, 1) := by decide +kernel
theorem tz_147_148 : tw_E sc d 147 148 [x0, some (.int v), x2, x3, x4] st g mi mr Q = tw_E sc d 147 149 [x0, some (.int v), x2, x3, x4] (.int v :: st) g mi mr Q := tw_x_iload_n td_147_148 rfl
theorem td_147_149 : decode (tw_cd 147) 149 = .ok (.iload_n 2, 1) := by decide +kernel
theorem tz_147_149 : tw_E sc d 147 149 [x0, x1, some (.int v), x3, x4] st g mi mr Q = tw_E sc d 147 150 [x0, x1, some (.int v), x3, x4] (.int v :: st) g mi mr Q := tw_x_iload_n td_147_149 rfl
theorem td_147_150 : decode (tw_cd 147) 150 = .ok (.iastore, 1) := by decide +kernel
theorem tz_147_150 : tw_E sc d 147 150 [x0, x1, x2, x3, x4] (.int w :: .int v :: .ref a :: st) g mi mr Q = ((tw_kd g a = 20 ∧ vp_in v (tw_ln g a)) ∧ tw_E sc d 147 151 [x0, x1, x2, x3, x4] st g (tw_st mi a (tw_st (mi a) v.toNatClampNeg w)) mr Q) := tw_x_iast td_147_150
theorem td_147_151 : decode (tw_cd 147) 151 = .ok (.iconst 0, 1) := by decide +kernel
theorem tz_147_151 : tw_E sc d 147 151 [x0, x1, x2, x3, x4] st g mi mr Q = tw_E sc d 147 152 [x0, x1, x2, x3, x4] (.int 0 :: st) g mi mr Q := tw_x_iconst td_147_151 (by decide)
theorem td_147_152 : decode (tw_cd 147) 152 = .ok (.ireturn, 1) := by decide +kernel
theorem tz_147_152 : tw_E sc d 147 152 [x0, x1, x2, x3, x4] ([.int v]) g mi mr Q = ((v = 0 ∨ v = 1) ∧ Q (some (.int v)) g mi mr) := tw_x_zret td_147_152 tr_147
end tz_147
