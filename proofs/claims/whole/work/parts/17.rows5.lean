/-! a row for each instruction: printed by wip/whole/gen3.py -/
-- 131: Mo_next
section tz_131
variable {sc : Nat × (Nat → Int32)} {d : Nat} {x0 : Option Value} {st : List Value} {g : tw_G} {mi : tw_I} {mr : tw_Q} {Q : Option Value → tw_G → tw_I → tw_Q → Prop} {v w u : Int32} {a b : Nat} {j h : Int64} {s1 s2 s3 s4 : Value}
theorem td_131_0 : decode (tw_cd 131) 0 = .ok (.aload_n 0, 1) := by decide +kernel
theorem tz_131_0 : tw_E sc d 131 0 [some (.ref a)] st g mi mr Q = tw_E sc d 131 1 [some (.ref a)] (.ref a :: st) g mi mr Q := tw_x_aload_n td_131_0 rfl
theorem td_131_1 : decode (tw_cd 131) 1 = .ok (.getfield 100, 3) := by decide +kernel
theorem tz_131_1 : tw_E sc d 131 1 [x0] (.ref a :: st) g mi mr Q = (tw_kd g a = 10 ∧ tw_E sc d 131 4 [x0] (.int (mi a 29) :: st) g mi mr Q) := tw_x_geti td_131_1 to_131 tf_10_100 (trf_10_29)
theorem td_131_4 : decode (tw_cd 131) 4 = .ok (.aload_n 0, 1) := by decide +kernel
theorem tz_131_4 : tw_E sc d 131 4 [some (.ref a)] st g mi mr Q = tw_E sc d 131 5 [some (.ref a)] (.ref a :: st) g mi mr Q := tw_x_aload_n td_131_4 rfl
theorem td_131_5 : decode (tw_cd 131) 5 = .ok (.getfield 89, 3) := by decide +kernel
theorem tz_131_5 : tw_E sc d 131 5 [x0] (.ref a :: st) g mi mr Q = (tw_kd g a = 10 ∧ tw_E sc d 131 8 [x0] (.int (mi a 2) :: st) g mi mr Q) := tw_x_geti td_131_5 to_131 tf_10_89 (trf_10_2)
theorem td_131_8 : decode (tw_cd 131) 8 = .ok (.if_icmp .ge 30, 3) := by decide +kernel
theorem tz_131_8 : tw_E sc d 131 8 [x0] (.int w :: .int v :: st) g mi mr Q = if w ≤ v then tw_E sc d 131 38 [x0] st g mi mr Q else tw_E sc d 131 11 [x0] st g mi mr Q := tw_x_ic_ge td_131_8 (by decide)
theorem td_131_11 : decode (tw_cd 131) 11 = .ok (.aload_n 0, 1) := by decide +kernel
theorem tz_131_11 : tw_E sc d 131 11 [some (.ref a)] st g mi mr Q = tw_E sc d 131 12 [some (.ref a)] (.ref a :: st) g mi mr Q := tw_x_aload_n td_131_11 rfl
theorem td_131_12 : decode (tw_cd 131) 12 = .ok (.getfield 7, 3) := by decide +kernel
theorem tz_131_12 : tw_E sc d 131 12 [x0] (.ref a :: st) g mi mr Q = (tw_kd g a = 10 ∧ tw_E sc d 131 15 [x0] (va_rf (mr a 1) :: st) g mi mr Q) := tw_x_getr td_131_12 to_131 tf_10_7 (trf_10_1)
theorem td_131_15 : decode (tw_cd 131) 15 = .ok (.aload_n 0, 1) := by decide +kernel
theorem tz_131_15 : tw_E sc d 131 15 [some (.ref a)] st g mi mr Q = tw_E sc d 131 16 [some (.ref a)] (.ref a :: st) g mi mr Q := tw_x_aload_n td_131_15 rfl
theorem td_131_16 : decode (tw_cd 131) 16 = .ok (.getfield 100, 3) := by decide +kernel
theorem tz_131_16 : tw_E sc d 131 16 [x0] (.ref a :: st) g mi mr Q = (tw_kd g a = 10 ∧ tw_E sc d 131 19 [x0] (.int (mi a 29) :: st) g mi mr Q) := tw_x_geti td_131_16 to_131 tf_10_100 (trf_10_29)
theorem td_131_19 : decode (tw_cd 131) 19 = .ok (.iaload, 1) := by decide +kernel
theorem tz_131_19 : tw_E sc d 131 19 [x0] (.int v :: .ref a :: st) g mi mr Q = ((tw_kd g a = 20 ∧ vp_in v (tw_ln g a)) ∧ tw_E sc d 131 20 [x0] (.int (mi a v.toNatClampNeg) :: st) g mi mr Q) := tw_x_iald td_131_19
theorem td_131_20 : decode (tw_cd 131) 20 = .ok (.bipush 32, 2) := by decide +kernel
theorem tz_131_20 : tw_E sc d 131 20 [x0] st g mi mr Q = tw_E sc d 131 22 [x0] (.int 32 :: st) g mi mr Q := tw_x_bipush td_131_20 (by decide)
theorem td_131_22 : decode (tw_cd 131) 22 = .ok (.if_icmp .ne 16, 3) := by decide +kernel
theorem tz_131_22 : tw_E sc d 131 22 [x0] (.int w :: .int v :: st) g mi mr Q = if ¬ v = w then tw_E sc d 131 38 [x0] st g mi mr Q else tw_E sc d 131 25 [x0] st g mi mr Q := tw_x_ic_ne td_131_22 (by decide)
theorem td_131_25 : decode (tw_cd 131) 25 = .ok (.aload_n 0, 1) := by decide +kernel
theorem tz_131_25 : tw_E sc d 131 25 [some (.ref a)] st g mi mr Q = tw_E sc d 131 26 [some (.ref a)] (.ref a :: st) g mi mr Q := tw_x_aload_n td_131_25 rfl
theorem td_131_26 : decode (tw_cd 131) 26 = .ok (.dup, 1) := by decide +kernel
theorem tz_131_26 : tw_E sc d 131 26 [x0] (.ref a :: st) g mi mr Q = tw_E sc d 131 27 [x0] (.ref a :: .ref a :: st) g mi mr Q := tw_x_dup_ref td_131_26
theorem td_131_27 : decode (tw_cd 131) 27 = .ok (.getfield 100, 3) := by decide +kernel
theorem tz_131_27 : tw_E sc d 131 27 [x0] (.ref a :: st) g mi mr Q = (tw_kd g a = 10 ∧ tw_E sc d 131 30 [x0] (.int (mi a 29) :: st) g mi mr Q) := tw_x_geti td_131_27 to_131 tf_10_100 (trf_10_29)
theorem td_131_30 : decode (tw_cd 131) 30 = .ok (.iconst 1, 1) := by decide +kernel
theorem tz_131_30 : tw_E sc d 131 30 [x0] st g mi mr Q = tw_E sc d 131 31 [x0] (.int 1 :: st) g mi mr Q := tw_x_iconst td_131_30 (by decide)
theorem td_131_31 : decode (tw_cd 131) 31 = .ok (.iadd, 1) := by decide +kernel
theorem tz_131_31 : tw_E sc d 131 31 [x0] (.int w :: .int v :: st) g mi mr Q = tw_E sc d 131 32 [x0] (.int (v + w) :: st) g mi mr Q := tw_x_iadd td_131_31
theorem td_131_32 : decode (tw_cd 131) 32 = .ok (.putfield 100, 3) := by decide +kernel
theorem tz_131_32 : tw_E sc d 131 32 [x0] (.int v :: .ref a :: st) g mi mr Q = (tw_kd g a = 10 ∧ tw_E sc d 131 35 [x0] st g (tw_st mi a (tw_st (mi a) 29 v)) mr Q) := tw_x_puti td_131_32 to_131 tf_10_100 rfl rfl
theorem td_131_35 : decode (tw_cd 131) 35 = .ok (.goto (-35), 3) := by decide +kernel
theorem tz_131_35 : tw_E sc d 131 35 [x0] st g mi mr Q = tw_E sc d 131 0 [x0] st g mi mr Q := tw_x_goto td_131_35 (by decide)
theorem td_131_38 : decode (tw_cd 131) 38 = .ok (.aload_n 0, 1) := by decide +kernel
theorem tz_131_38 : tw_E sc d 131 38 [some (.ref a)] st g mi mr Q = tw_E sc d 131 39 [some (.ref a)] (.ref a :: st) g mi mr Q := tw_x_aload_n td_131_38 rfl
theorem td_131_39 : decode (tw_cd 131) 39 = .ok (.aload_n 0, 1) := by decide +kernel
theorem tz_131_39 : tw_E sc d 131 39 [some (.ref a)] st g mi mr Q = tw_E sc d 131 40 [some (.ref a)] (.ref a :: st) g mi mr Q := tw_x_aload_n td_131_39 rfl
theorem td_131_40 : decode (tw_cd 131) 40 = .ok (.getfield 100, 3) := by decide +kernel
theorem tz_131_40 : tw_E sc d 131 40 [x0] (.ref a :: st) g mi mr Q = (tw_kd g a = 10 ∧ tw_E sc d 131 43 [x0] (.int (mi a 29) :: st) g mi mr Q) := tw_x_geti td_131_40 to_131 tf_10_100 (trf_10_29)
theorem td_131_43 : decode (tw_cd 131) 43 = .ok (.putfield 103, 3) := by decide +kernel
theorem tz_131_43 : tw_E sc d 131 43 [x0] (.int v :: .ref a :: st) g mi mr Q = (tw_kd g a = 10 ∧ tw_E sc d 131 46 [x0] st g (tw_st mi a (tw_st (mi a) 31 v)) mr Q) := tw_x_puti td_131_43 to_131 tf_10_103 rfl rfl
theorem td_131_46 : decode (tw_cd 131) 46 = .ok (.aload_n 0, 1) := by decide +kernel
theorem tz_131_46 : tw_E sc d 131 46 [some (.ref a)] st g mi mr Q = tw_E sc d 131 47 [some (.ref a)] (.ref a :: st) g mi mr Q := tw_x_aload_n td_131_46 rfl
theorem td_131_47 : decode (tw_cd 131) 47 = .ok (.iconst 0, 1) := by decide +kernel
theorem tz_131_47 : tw_E sc d 131 47 [x0] st g mi mr Q = tw_E sc d 131 48 [x0] (.int 0 :: st) g mi mr Q := tw_x_iconst td_131_47 (by decide)
theorem td_131_48 : decode (tw_cd 131) 48 = .ok (.putfield 106, 3) := by decide +kernel
theorem tz_131_48 : tw_E sc d 131 48 [x0] (.int v :: .ref a :: st) g mi mr Q = (tw_kd g a = 10 ∧ tw_E sc d 131 51 [x0] st g (tw_st mi a (tw_st (mi a) 32 v)) mr Q) := tw_x_puti td_131_48 to_131 tf_10_106 rfl rfl
theorem td_131_51 : decode (tw_cd 131) 51 = .ok (.aload_n 0, 1) := by decide +kernel
theorem tz_131_51 : tw_E sc d 131 51 [some (.ref a)] st g mi mr Q = tw_E sc d 131 52 [some (.ref a)] (.ref a :: st) g mi mr Q := tw_x_aload_n td_131_51 rfl
theorem td_131_52 : decode (tw_cd 131) 52 = .ok (.getfield 100, 3) := by decide +kernel
theorem tz_131_52 : tw_E sc d 131 52 [x0] (.ref a :: st) g mi mr Q = (tw_kd g a = 10 ∧ tw_E sc d 131 55 [x0] (.int (mi a 29) :: st) g mi mr Q) := tw_x_geti td_131_52 to_131 tf_10_100 (trf_10_29)
theorem td_131_55 : decode (tw_cd 131) 55 = .ok (.aload_n 0, 1) := by decide +kernel
theorem tz_131_55 : tw_E sc d 131 55 [some (.ref a)] st g mi mr Q = tw_E sc d 131 56 [some (.ref a)] (.ref a :: st) g mi mr Q := tw_x_aload_n td_131_55 rfl
theorem td_131_56 : decode (tw_cd 131) 56 = .ok (.getfield 89, 3) := by decide +kernel
theorem tz_131_56 : tw_E sc d 131 56 [x0] (.ref a :: st) g mi mr Q = (tw_kd g a = 10 ∧ tw_E sc d 131 59 [x0] (.int (mi a 2) :: st) g mi mr Q) := tw_x_geti td_131_56 to_131 tf_10_89 (trf_10_2)
theorem td_131_59 : decode (tw_cd 131) 59 = .ok (.if_icmp .ne 9, 3) := by decide +kernel
theorem tz_131_59 : tw_E sc d 131 59 [x0] (.int w :: .int v :: st) g mi mr Q = if ¬ v = w then tw_E sc d 131 68 [x0] st g mi mr Q else tw_E sc d 131 62 [x0] st g mi mr Q := tw_x_ic_ne td_131_59 (by decide)
theorem td_131_62 : decode (tw_cd 131) 62 = .ok (.aload_n 0, 1) := by decide +kernel
theorem tz_131_62 : tw_E sc d 131 62 [some (.ref a)] st g mi mr Q = tw_E sc d 131 63 [some (.ref a)] (.ref a :: st) g mi mr Q := tw_x_aload_n td_131_62 rfl
theorem td_131_63 : decode (tw_cd 131) 63 = .ok (.iconst 0, 1) := by decide +kernel
theorem tz_131_63 : tw_E sc d 131 63 [x0] st g mi mr Q = tw_E sc d 131 64 [x0] (.int 0 :: st) g mi mr Q := tw_x_iconst td_131_63 (by decide)
theorem td_131_64 : decode (tw_cd 131) 64 = .ok (.putfield 109, 3) := by decide +kernel
theorem tz_131_64 : tw_E sc d 131 64 [x0] (.int v :: .ref a :: st) g mi mr Q = (tw_kd g a = 10 ∧ tw_E sc d 131 67 [x0] st g (tw_st mi a (tw_st (mi a) 30 v)) mr Q) := tw_x_puti td_131_64 to_131 tf_10_109 rfl rfl
theorem td_131_67 : decode (tw_cd 131) 67 = .ok (.return_, 1) := by decide +kernel
theorem tz_131_67 : tw_E sc d 131 67 [x0] [] g mi mr Q = Q none g mi mr := tw_x_vret td_131_67 tr_131
theorem td_131_68 : decode (tw_cd 131) 68 = .ok (.aload_n 0, 1) := by decide +kernel
theorem tz_131_68 : tw_E sc d 131 68 [some (.ref a)] st g mi mr Q = tw_E sc d 131 69 [some (.ref a)] (.ref a :: st) g mi mr Q := tw_x_aload_n td_131_68 rfl
theorem td_131_69 : decode (tw_cd 131) 69 = .ok (.aload_n 0, 1) := by decide +kernel
theorem tz_131_69 : tw_E sc d 131 69 [some (.ref a)] st g mi mr Q = tw_E sc d 131 70 [some (.ref a)] (.ref a :: st) g mi mr Q := tw_x_aload_n td_131_69 rfl
theorem td_131_70 : decode (tw_cd 131) 70 = .ok (.getfield 100, 3) := by decide +kernel
theorem tz_131_70 : tw_E sc d 131 70 [x0] (.ref a :: st) g mi mr Q = (tw_kd g a = 10 ∧ tw_E sc d 131 73 [x0] (.int (mi a 29) :: st) g mi mr Q) := tw_x_geti td_131_70 to_131 tf_10_100 (trf_10_29)
theorem td_131_73 : decode (tw_cd 131) 73 = .ok (.invokevirtual 112, 3) := by decide +kernel
theorem tz_131_73 {a0 : Int32} : tw_E sc (d + 1) 131 73 [x0] ([.int a0, .ref a]) g mi mr Q = (tw_kd g a = 10 ∧ tw_E sc d 129 0 [some (.ref a), some (.int a0)] [] g mi mr (tw_K sc (d + 1) 131 76 [x0] [] Q)) := tw_x_cv (as := [.int a0]) (r := []) td_131_73 to_131 tc_10_112 to_129 rfl rfl rfl rfl
theorem td_131_76 : decode (tw_cd 131) 76 = .ok (.ifCond .eq 101, 3) := by decide +kernel
theorem tz_131_76 : tw_E sc d 131 76 [x0] (.int v :: st) g mi mr Q = if v = 0 then tw_E sc d 131 177 [x0] st g mi mr Q else tw_E sc d 131 79 [x0] st g mi mr Q := tw_x_if_eq td_131_76 (by decide)
theorem td_131_79 : decode (tw_cd 131) 79 = .ok (.aload_n 0, 1) := by decide +kernel
theorem tz_131_79 : tw_E sc d 131 79 [some (.ref a)] st g mi mr Q = tw_E sc d 131 80 [some (.ref a)] (.ref a :: st) g mi mr Q := tw_x_aload_n td_131_79 rfl
theorem td_131_80 : decode (tw_cd 131) 80 = .ok (.aload_n 0, 1) := by decide +kernel
theorem tz_131_80 : tw_E sc d 131 80 [some (.ref a)] st g mi mr Q = tw_E sc d 131 81 [some (.ref a)] (.ref a :: st) g mi mr Q := tw_x_aload_n td_131_80 rfl
theorem td_131_81 : decode (tw_cd 131) 81 = .ok (.getfield 100, 3) := by decide +kernel
theorem tz_131_81 : tw_E sc d 131 81 [x0] (.ref a :: st) g mi mr Q = (tw_kd g a = 10 ∧ tw_E sc d 131 84 [x0] (.int (mi a 29) :: st) g mi mr Q) := tw_x_geti td_131_81 to_131 tf_10_100 (trf_10_29)
theorem td_131_84 : decode (tw_cd 131) 84 = .ok (.invokevirtual 112, 3) := by decide +kernel
theorem tz_131_84 {a0 : Int32} : tw_E sc (d + 1) 131 84 [x0] ([.int a0, .ref a]) g mi mr Q = (tw_kd g a = 10 ∧ tw_E sc d 129 0 [some (.ref a), some (.int a0)] [] g mi mr (tw_K sc (d + 1) 131 87 [x0] [] Q)) := tw_x_cv (as := [.int a0]) (r := []) td_131_84 to_131 tc_10_112 to_129 rfl rfl rfl rfl
theorem td_131_87 : decode (tw_cd 131) 87 = .ok (.ifCond .eq 60, 3) := by decide +kernel
theorem tz_131_87 : tw_E sc d 131 87 [x0] (.int v :: st) g mi mr Q = if v = 0 then tw_E sc d 131 147 [x0] st g mi mr Q else tw_E sc d 131 90 [x0] st g mi mr Q := tw_x_if_eq td_131_87 (by decide)
theorem td_131_90 : decode (tw_cd 131) 90 = .ok (.aload_n 0, 1) := by decide +kernel
theorem tz_131_90 : tw_E sc d 131 90 [some (.ref a)] st g mi mr Q = tw_E sc d 131 91 [some (.ref a)] (.ref a :: st) g mi mr Q := tw_x_aload_n td_131_90 rfl
theorem td_131_91 : decode (tw_cd 131) 91 = .ok (.aload_n 0, 1) := by decide +kernel
theorem tz_131_91 : tw_E sc d 131 91 [some (.ref a)] st g mi mr Q = tw_E sc d 131 92 [some (.ref a)] (.ref a :: st) g mi mr Q := tw_x_aload_n td_131_91 rfl
theorem td_131_92 : decode (tw_cd 131) 92 = .ok (.getfield 100, 3) := by decide +kernel
theorem tz_131_92 : tw_E sc d 131 92 [x0] (.ref a :: st) g mi mr Q = (tw_kd g a = 10 ∧ tw_E sc d 131 95 [x0] (.int (mi a 29) :: st) g mi mr Q) := tw_x_geti td_131_92 to_131 tf_10_100 (trf_10_29)
theorem td_131_95 : decode (tw_cd 131) 95 = .ok (.aload_n 0, 1) := by decide +kernel
theorem tz_131_95 : tw_E sc d 131 95 [some (.ref a)] st g mi mr Q = tw_E sc d 131 96 [some (.ref a)] (.ref a :: st) g mi mr Q := tw_x_aload_n td_131_95 rfl
theorem td_131_96 : decode (tw_cd 131) 96 = .ok (.getfield 103, 3) := by decide +kernel
theorem tz_131_96 : tw_E sc d 131 96 [x0] (.ref a :: st) g mi mr Q = (tw_kd g a = 10 ∧ tw_E sc d 131 99 [x0] (.int (mi a 31) :: st) g mi mr Q) := tw_x_geti td_131_96 to_131 tf_10_103 (trf_10_31)
theorem td_131_99 : decode (tw_cd 131) 99 = .ok (.isub, 1) := by decide +kernel
theorem tz_131_99 : tw_E sc d 131 99 [x0] (.int w :: .int v :: st) g mi mr Q = tw_E sc d 131 100 [x0] (.int (v - w) :: st) g mi mr Q := tw_x_isub td_131_99
theorem td_131_100 : decode (tw_cd 131) 100 = .ok (.iconst 3, 1) := by decide +kernel
theorem tz_131_100 : tw_E sc d 131 100 [x0] st g mi mr Q = tw_E sc d 131 101 [x0] (.int 3 :: st) g mi mr Q := tw_x_iconst td_131_100 (by decide)
theorem td_131_101 : decode (tw_cd 131) 101 = .ok (.if_icmp .ge 26, 3) := by decide +kernel
theorem tz_131_101 : tw_E sc d 131 101 [x0] (.int w :: .int v :: st) g mi mr Q = if w ≤ v then tw_E sc d 131 127 [x0] st g mi mr Q else tw_E sc d 131 104 [x0] st g mi mr Q := tw_x_ic_ge td_131_101 (by decide)
theorem td_131_104 : decode (tw_cd 131) 104 = .ok (.bipush 10, 2) := by decide +kernel
theorem tz_131_104 : tw_E sc d 131 104 [x0] st g mi mr Q = tw_E sc d 131 106 [x0] (.int 10 :: st) g mi mr Q := tw_x_bipush td_131_104 (by decide)
theorem td_131_106 : decode (tw_cd 131) 106 = .ok (.aload_n 0, 1) := by decide +kernel
theorem tz_131_106 : tw_E sc d 131 106 [some (.ref a)] st g mi mr Q = tw_E sc d 131 107 [some (.ref a)] (.ref a :: st) g mi mr Q := tw_x_aload_n td_131_106 rfl
theorem td_131_107 : decode (tw_cd 131) 107 = .ok (.getfield 106, 3) := by decide +kernel
theorem tz_131_107 : tw_E sc d 131 107 [x0] (.ref a :: st) g mi mr Q = (tw_kd g a = 10 ∧ tw_E sc d 131 110 [x0] (.int (mi a 32) :: st) g mi mr Q) := tw_x_geti td_131_107 to_131 tf_10_106 (trf_10_32)
theorem td_131_110 : decode (tw_cd 131) 110 = .ok (.imul, 1) := by decide +kernel
theorem tz_131_110 : tw_E sc d 131 110 [x0] (.int w :: .int v :: st) g mi mr Q = tw_E sc d 131 111 [x0] (.int (v * w) :: st) g mi mr Q := tw_x_imul td_131_110
theorem td_131_111 : decode (tw_cd 131) 111 = .ok (.aload_n 0, 1) := by decide +kernel
theorem tz_131_111 : tw_E sc d 131 111 [some (.ref a)] st g mi mr Q = tw_E sc d 131 112 [some (.ref a)] (.ref a :: st) g mi mr Q := tw_x_aload_n td_131_111 rfl
theorem td_131_112 : decode (tw_cd 131) 112 = .ok (.getfield 7, 3) := by decide +kernel
theorem tz_131_112 : tw_E sc d 131 112 [x0] (.ref a :: st) g mi mr Q = (tw_kd g a = 10 ∧ tw_E sc d 131 115 [x0] (va_rf (mr a 1) :: st) g mi mr Q) := tw_x_getr td_131_112 to_131 tf_10_7 (trf_10_1)
theorem td_131_115 : decode (tw_cd 131) 115 = .ok (.aload_n 0, 1) := by decide +kernel
theorem tz_131_115 : tw_E sc d 131 115 [some (.ref a)] st g mi mr Q = tw_E sc d 131 116 [some (.ref a)] (.ref a :: st) g mi mr Q := tw_x_aload_n td_131_115 rfl
theorem td_131_116 : decode (tw_cd 131) 116 = .ok (.getfield 100, 3) := by decide +kernel
theorem tz_131_116 : tw_E sc d 131 116 [x0] (.ref a :: st) g mi mr Q = (tw_kd g a = 10 ∧ tw_E sc d 131 119 [x0] (.int (mi a 29) :: st) g mi mr Q) := tw_x_geti td_131_116 to_131 tf_10_100 (trf_10_29)
theorem td_131_119 : decode (tw_cd 131) 119 = .ok (.iaload, 1) := by decide +kernel
theorem tz_131_119 : tw_E sc d 131 119 [x0] (.int v :: .ref a :: st) g mi mr Q = ((tw_kd g a = 20 ∧ vp_in v (tw_ln g a)) ∧ tw_E sc d 131 120 [x0] (.int (mi a v.toNatClampNeg) :: st) g mi mr Q) := tw_x_iald td_131_119
theorem td_131_120 : decode (tw_cd 131) 120 = .ok (.iadd, 1) := by decide +kernel
theorem tz_131_120 : tw_E sc d 131 120 [x0] (.int w :: .int v :: st) g mi mr Q = tw_E sc d 131 121 [x0] (.int (v + w) :: st) g mi mr Q := tw_x_iadd td_131_120
theorem td_131_121 : decode (tw_cd 131) 121 = .ok (.bipush 48, 2) := by decide +kernel
theorem tz_131_121 : tw_E sc d 131 121 [x0] st g mi mr Q = tw_E sc d 131 123 [x0] (.int 48 :: st) g mi mr Q := tw_x_bipush td_131_121 (by decide)
theorem td_131_123 : decode (tw_cd 131) 123 = .ok (.isub, 1) := by decide +kernel
theorem tz_131_123 : tw_E sc d 131 123 [x0] (.int w :: .int v :: st) g mi mr Q = tw_E sc d 131 124 [x0] (.int (v - w) :: st) g mi mr Q := tw_x_isub td_131_123
theorem td_131_124 : decode (tw_cd 131) 124 = .ok (.goto 7, 3) := by decide +kernel
theorem tz_131_124 : tw_E sc d 131 124 [x0] st g mi mr Q = tw_E sc d 131 131 [x0] st g mi mr Q := tw_x_goto td_131_124 (by decide)
theorem td_131_127 : decode (tw_cd 131) 127 = .ok (.aload_n 0, 1) := by decide +kernel
theorem tz_131_127 : tw_E sc d 131 127 [some (.ref a)] st g mi mr Q = tw_E sc d 131 128 [some (.ref a)] (.ref a :: st) g mi mr Q := tw_x_aload_n td_131_127 rfl
theorem td_131_128 : decode (tw_cd 131) 128 = .ok (.getfield 106, 3) := by decide +kernel
theorem tz_131_128 : tw_E sc d 131 128 [x0] (.ref a :: st) g mi mr Q = (tw_kd g a = 10 ∧ tw_E sc d 131 131 [x0] (.int (mi a 32) :: st) g mi mr Q) := tw_x_geti td_131_128 to_131 tf_10_106 (trf_10_32)
theorem td_131_131 : decode (tw_cd 131) 131 = .ok (.putfield 106, 3) := by decide +kernel
theorem tz_131_131 : tw_E sc d 131 131 [x0] (.int v :: .ref a :: st) g mi mr Q = (tw_kd g a = 10 ∧ tw_E sc d 131 134 [x0] st g (tw_st mi a (tw_st (mi a) 32 v)) mr Q) := tw_x_puti td_131_131 to_131 tf_10_106 rfl rfl
theorem td_131_134 : decode (tw_cd 131) 134 = .ok (.aload_n 0, 1) := by decide +kernel
theorem tz_131_134 : tw_E sc d 131 134 [some (.ref a)] st g mi mr Q = tw_E sc d 131 135 [some (.ref a)] (.ref a :: st) g mi mr Q := tw_x_aload_n td_131_134 rfl
theorem td_131_135 : decode (tw_cd 131) 135 = .ok (.dup, 1) := by decide +kernel
theorem tz_131_135 : tw_E sc d 131 135 [x0] (.ref a :: st) g mi mr Q = tw_E sc d 131 136 [x0] (.ref a :: .ref a :: st) g mi mr Q := tw_x_dup_ref td_131_135
theorem td_131_136 : decode (tw_cd 131) 136 = .ok (.getfield 100, 3) := by decide +kernel
theorem tz_131_136 : tw_E sc d 131 136 [x0] (.ref a :: st) g mi mr Q = (tw_kd g a = 10 ∧ tw_E sc d 131 139 [x0] (.int (mi a 29) :: st) g mi mr Q) := tw_x_geti td_131_136 to_131 tf_10_100 (trf_10_29)
theorem td_131_139 : decode (tw_cd 131) 139 = .ok (.iconst 1, 1) := by decide +kernel
theorem tz_131_139 : tw_E sc d 131 139 [x0] st g mi mr Q = tw_E sc d 131 140 [x0] (.int 1 :: st) g mi mr Q := tw_x_iconst td_131_139 (by decide)
theorem td_131_140 : decode (tw_cd 131) 140 = .ok (.iadd, 1) := by decide +kernel
theorem tz_131_140 : tw_E sc d 131 140 [x0] (.int w :: .int v :: st) g mi mr Q = tw_E sc d 131 141 [x0] (.int (v + w) :: st) g mi mr Q := tw_x_iadd td_131_140
theorem td_131_141 : decode (tw_cd 131) 141 = .ok (.putfield 100, 3) := by decide +kernel
theorem tz_131_141 : tw_E sc d 131 141 [x0] (.int v :: .ref a :: st) g mi mr Q = (tw_kd g a = 10 ∧ tw_E sc d 131 144 [x0] st g (tw_st mi a (tw_st (mi a) 29 v)) mr Q) := tw_x_puti td_131_141 to_131 tf_10_100 rfl rfl
theorem td_131_144 : decode (tw_cd 131) 144 = .ok (.goto (-65), 3) := by decide +kernel
theorem tz_131_144 : tw_E sc d 131 144 [x0] st g mi mr Q = tw_E sc d 131 79 [x0] st g mi mr Q := tw_x_goto td_131_144 (by decide)
theorem td_131_147 : decode (tw_cd 131) 147 = .ok (.aload_n 0, 1) := by decide +kernel
theorem tz_131_147 : tw_E sc d 131 147 [some (.ref a)] st g mi mr Q = tw_E sc d 131 148 [some (.ref a)] (.ref a :: st) g mi mr Q := tw_x_aload_n td_131_147 rfl
theorem td_131_148 : decode (tw_cd 131) 148 = .ok (.aload_n 0, 1) := by decide +kernel
theorem tz_131_148 : tw_E sc d 131 148 [some (.ref a)] st g mi mr Q = tw_E sc d 131 149 [some (.ref a)] (.ref a :: st) g mi mr Q := tw_x_aload_n td_131_148 rfl
theorem td_131_149 : decode (tw_cd 131) 149 = .ok (.getfield 100, 3) := by decide +kernel
theorem tz_131_149 : tw_E sc d 131 149 [x0] (.ref a :: st) g mi mr Q = (tw_kd g a = 10 ∧ tw_E sc d 131 152 [x0] (.int (mi a 29) :: st) g mi mr Q) := tw_x_geti td_131_149 to_131 tf_10_100 (trf_10_29)
theorem td_131_152 : decode (tw_cd 131) 152 = .ok (.aload_n 0, 1) := by decide +kernel
theorem tz_131_152 : tw_E sc d 131 152 [some (.ref a)] st g mi mr Q = tw_E sc d 131 153 [some (.ref a)] (.ref a :: st) g mi mr Q := tw_x_aload_n td_131_152 rfl
theorem td_131_153 : decode (tw_cd 131) 153 = .ok (.getfield 103, 3) := by decide +kernel
theorem tz_131_153 : tw_E sc d 131 153 [x0] (.ref a :: st) g mi mr Q = (tw_kd g a = 10 ∧ tw_E sc d 131 156 [x0] (.int (mi a 31) :: st) g mi mr Q) := tw_x_geti td_131_153 to_131 tf_10_103 (trf_10_31)
theorem td_131_156 : decode (tw_cd 131) 156 = .ok (.isub, 1) := by decide +kernel
theorem tz_131_156 : tw_E sc d 131 156 [x0] (.int w :: .int v :: st) g mi mr Q = tw_E sc d 131 157 [x0] (.int (v - w) :: st) g mi mr Q := tw_x_isub td_131_156
theorem td_131_157 : decode (tw_cd 131) 157 = .ok (.iconst 3, 1) := by decide +kernel
theorem tz_131_157 : tw_E sc d 131 157 [x0] st g mi mr Q = tw_E sc d 131 158 [x0] (.int 3 :: st) g mi mr Q := tw_x_iconst td_131_157 (by decide)
theorem td_131_158 : decode (tw_cd 131) 158 = .ok (.if_icmp .gt 10, 3) := by decide +kernel
theorem tz_131_158 : tw_E sc d 131 158 [x0] (.int w :: .int v :: st) g mi mr Q = if w < v then tw_E sc d 131 168 [x0] st g mi mr Q else tw_E sc d 131 161 [x0] st g mi mr Q := tw_x_ic_gt td_131_158 (by decide)
theorem td_131_161 : decode (tw_cd 131) 161 = .ok (.aload_n 0, 1) := by decide +kernel
theorem tz_131_161 : tw_E sc d 131 161 [some (.ref a)] st g mi mr Q = tw_E sc d 131 162 [some (.ref a)] (.ref a :: st) g mi mr Q := tw_x_aload_n td_131_161 rfl
theorem td_131_162 : decode (tw_cd 131) 162 = .ok (.getfield 106, 3) := by decide +kernel
theorem tz_131_162 : tw_E sc d 131 162 [x0] (.ref a :: st) g mi mr Q = (tw_kd g a = 10 ∧ tw_E sc d 131 165 [x0] (.int (mi a 32) :: st) g mi mr Q) := tw_x_geti td_131_162 to_131 tf_10_106 (trf_10_32)
theorem td_131_165 : decode (tw_cd 131) 165 = .ok (.ifCond .ne 7, 3) := by decide +kernel
theorem tz_131_165 : tw_E sc d 131 165 [x0] (.int v :: st) g mi mr Q = if ¬ v = 0 then tw_E sc d 131 172 [x0] st g mi mr Q else tw_E sc d 131 168 [x0] st g mi mr Q := tw_x_if_ne td_131_165 (by decide)
theorem td_131_168 : decode (tw_cd 131) 168 = .ok (.iconst 4, 1) := by decide +kernel
theorem tz_131_168 : tw_E sc d 131 168 [x0] st g mi mr Q = tw_E sc d 131 169 [x0] (.int 4 :: st) g mi mr Q := tw_x_iconst td_131_168 (by decide)
theorem td_131_169 : decode (tw_cd 131) 169 = .ok (.goto 4, 3) := by decide +kernel
theorem tz_131_169 : tw_E sc d 131 169 [x0] st g mi mr Q = tw_E sc d 131 173 [x0] st g mi mr Q := tw_x_goto td_131_169 (by decide)
theorem td_131_172 : decode (tw_cd 131) 172 = .ok (.iconst 1, 1) := by decide +kernel
theorem tz_131_172 : tw_E sc d 131 172 [x0] st g mi mr Q = tw_E sc d 131 173 [x0] (.int 1 :: st) g mi mr Q := tw_x_iconst td_131_172 (by decide)
theorem td_131_173 : decode (tw_cd 131) 173 = .ok (.putfield 109, 3) := by decide +kernel
theorem tz_131_173 : tw_E sc d 131 173 [x0] (.int v :: .ref a :: st) g mi mr Q = (tw_kd g a = 10 ∧ tw_E sc d 131 176 [x0] st g (tw_st mi a (tw_st (mi a) 30 v)) mr Q) := tw_x_puti td_131_173 to_131 tf_10_109 rfl rfl
theorem td_131_176 : decode (tw_cd 131) 176 = .ok (.return_, 1) := by decide +kernel
theorem tz_131_176 : tw_E sc d 131 176 [x0] [] g mi mr Q = Q none g mi mr := tw_x_vret td_131_176 tr_131
theorem td_131_177 : decode (tw_cd 131) 177 = .ok (.aload_n 0, 1) := by decide +kernel
theorem tz_131_177 : tw_E sc d 131 177 [some (.ref a)] st g mi mr Q = tw_E sc d 131 178 [some (.ref a)] (.ref a :: st) g mi mr Q := tw_x_aload_n td_131_177 rfl
theorem td_131_178 : decode (tw_cd 131) 178 = .ok (.aload_n 0, 1) := by decide +kernel
theorem tz_131_178 : tw_E sc d 131 178 [some (.ref a)] st g mi mr Q = tw_E sc d 131 179 [some (.ref a)] (.ref a :: st) g mi mr Q := tw_x_aload_n td_131_178 rfl
theorem td_131_179 : decode (tw_cd 131) 179 = .ok (.getfield 7, 3) := by decide +kernel
theorem tz_131_179 : tw_E sc d 131 179 [x0] (.ref a :: st) g mi mr Q = (tw_kd g a = 10 ∧ tw_E sc d 131 182 [x0] (va_rf (mr a 1) :: st) g mi mr Q) := tw_x_getr td_131_179 to_131 tf_10_7 (trf_10_1)
theorem td_131_182 : decode (tw_cd 131) 182 = .ok (.aload_n 0, 1) := by decide +kernel
theorem tz_131_182 : tw_E sc d 131 182 [some (.ref a)] st g mi mr Q = tw_E sc d 131 183 [some (.ref a)] (.ref a :: st) g mi mr Q := tw_x_aload_n td_131_182 rfl
theorem td_131_183 : decode (tw_cd 131) 183 = .ok (.getfield 100, 3) := by decide +kernel
theorem tz_131_183 : tw_E sc d 131 183 [x0] (.ref a :: st) g mi mr Q = (tw_kd g a = 10 ∧ tw_E sc d 131 186 [x0] (.int (mi a 29) :: st) g mi mr Q) := tw_x_geti td_131_183 to_131 tf_10_100 (trf_10_29)
theorem td_131_186 : decode (tw_cd 131) 186 = .ok (.iaload, 1) := by decide +kernel
theorem tz_131_186 : tw_E sc d 131 186 [x0] (.int v :: .ref a :: st) g mi mr Q = ((tw_kd g a = 20 ∧ vp_in v (tw_ln g a)) ∧ tw_E sc d 131 187 [x0] (.int (mi a v.toNatClampNeg) :: st) g mi mr Q) := tw_x_iald td_131_186
theorem td_131_187 : decode (tw_cd 131) 187 = .ok (.putfield 106, 3) := by decide +kernel
theorem tz_131_187 : tw_E sc d 131 187 [x0] (.int v :: .ref a :: st) g mi mr Q = (tw_kd g a = 10 ∧ tw_E sc d 131 190 [x0] st g (tw_st mi a (tw_st (mi a) 32 v)) mr Q) := tw_x_puti td_131_187 to_131 tf_10_106 rfl rfl
theorem td_131_190 : decode (tw_cd 131) 190 = .ok (.aload_n 0, 1) := by decide +kernel
theorem tz_131_190 : tw_E sc d 131 190 [some (.ref a)] st g mi mr Q = tw_E sc d 131 191 [some (.ref a)] (.ref a :: st) g mi mr Q := tw_x_aload_n td_131_190 rfl
theorem td_131_191 : decode (tw_cd 131) 191 = .ok (.dup, 1) := by decide +kernel
theorem tz_131_191 : tw_E sc d 131 191 [x0] (.ref a :: st) g mi mr Q = tw_E sc d 131 192 [x0] (.ref a :: .ref a :: st) g mi mr Q := tw_x_dup_ref td_131_191
theorem td_131_192 : decode (tw_cd 131) 192 = .ok (.getfield 100, 3) := by decide +kernel
theorem tz_131_192 : tw_E sc d 131 192 [x0] (.ref a :: st) g mi mr Q = (tw_kd g a = 10 ∧ tw_E sc d 131 195 [x0] (.int (mi a 29) :: st) g mi mr Q) := tw_x_geti td_131_192 to_131 tf_10_100 (trf_10_29)
theorem td_131_195 : decode (tw_cd 131) 195 = .ok (.iconst 1, 1) := by decide +kernel
theorem tz_131_195 : tw_E sc d 131 195 [x0] st g mi mr Q = tw_E sc d 131 196 [x0] (.int 1 :: st) g mi mr Q := tw_x_iconst td_131_195 (by decide)
theorem td_131_196 : decode (tw_cd 131) 196 = .ok (.iadd, 1) := by decide +kernel
theorem tz_131_196 : tw_E sc d 131 196 [x0] (.int w :: .int v :: st) g mi mr Q = tw_E sc d 131 197 [x0] (.int (v + w) :: st) g mi mr Q := tw_x_iadd td_131_196
theorem td_131_197 : decode (tw_cd 131) 197 = .ok (.putfield 100, 3) := by decide +kernel
theorem tz_131_197 : tw_E sc d 131 197 [x0] (.int v :: .ref a :: st) g mi mr Q = (tw_kd g a = 10 ∧ tw_E sc d 131 200 [x0] st g (tw_st mi a (tw_st (mi a) 29 v)) mr Q) := tw_x_puti td_131_197 to_131 tf_10_100 rfl rfl
theorem td_131_200 : decode (tw_cd 131) 200 = .ok (.aload_n 0, 1) := by decide +kernel
theorem tz_131_200 : tw_E sc d 131 200 [some (.ref a)] st g mi mr Q = tw_E sc d 131 201 [some (.ref a)] (.ref a :: st) g mi mr Q := tw_x_aload_n td_131_200 rfl
theorem td_131_201 : decode (tw_cd 131) 201 = .ok (.aload_n 0, 1) := by decide +kernel
theorem tz_131_201 : tw_E sc d 131 201 [some (.ref a)] st g mi mr Q = tw_E sc d 131 202 [some (.ref a)] (.ref a :: st) g mi mr Q := tw_x_aload_n td_131_201 rfl
theorem td_131_202 : decode (tw_cd 131) 202 = .ok (.getfield 106, 3) := by decide +kernel
theorem tz_131_202 : tw_E sc d 131 202 [x0] (.ref a :: st) g mi mr Q = (tw_kd g a = 10 ∧ tw_E sc d 131 205 [x0] (.int (mi a 32) :: st) g mi mr Q) := tw_x_geti td_131_202 to_131 tf_10_106 (trf_10_32)
theorem td_131_205 : decode (tw_cd 131) 205 = .ok (.i2l, 1) := by decide +kernel
theorem tz_131_205 : tw_E sc d 131 205 [x0] (.int v :: st) g mi mr Q = tw_E sc d 131 206 [x0] (.long v.toInt64 :: st) g mi mr Q := tw_x_i2l td_131_205
theorem td_131_206 : decode (tw_cd 131) 206 = .ok (.ldc2_w 116, 3) := by decide +kernel
theorem tz_131_206 : tw_E sc d 131 206 [x0] st g mi mr Q = tw_E sc d 131 209 [x0] (.long 97 :: st) g mi mr Q := tw_x_ldl td_131_206 to_131 tl_10_116
theorem td_131_209 : decode (tw_cd 131) 209 = .ok (.ldc2_w 118, 3) := by decide +kernel
theorem tz_131_209 : tw_E sc d 131 209 [x0] st g mi mr Q = tw_E sc d 131 212 [x0] (.long 112 :: st) g mi mr Q := tw_x_ldl td_131_209 to_131 tl_10_118
theorem td_131_212 : decode (tw_cd 131) 212 = .ok (.invokestatic 96, 3) := by decide +kernel
theorem tz_131_212 {a0 : Int64} {a1 : Int64} {a2 : Int64} : tw_E sc (d + 1) 131 212 [x0] ([.long a2, .long a1, .long a0, s1]) g mi mr Q = tw_E sc d 126 0 [some (.long a0), none, some (.long a1), none, some (.long a2), none] [] g mi mr (tw_K sc (d + 1) 131 215 [x0] [s1] Q) := tw_x_cs (as := [.long a0, .long a1, .long a2]) (r := [s1]) td_131_212 to_131 tmn_10_96 tc_10_96 rfl rfl rfl rfl rfl
theorem td_131_215 : decode (tw_cd 131) 215 = .ok (.ifCond .eq 7, 3) := by decide +kernel
theorem tz_131_215 : tw_E sc d 131 215 [x0] (.int v :: st) g mi mr Q = if v = 0 then tw_E sc d 131 222 [x0] st g mi mr Q else tw_E sc d 131 218 [x0] st g mi mr Q := tw_x_if_eq td_131_215 (by decide)
theorem td_131_218 : decode (tw_cd 131) 218 = .ok (.iconst 2, 1) := by decide +kernel
theorem tz_131_218 : tw_E sc d 131 218 [x0] st g mi mr Q = tw_E sc d 131 219 [x0] (.int 2 :: st) g mi mr Q := tw_x_iconst td_131_218 (by decide)
theorem td_131_219 : decode (tw_cd 131) 219 = .ok (.goto 18, 3) := by decide +kernel
theorem tz_131_219 : tw_E sc d 131 219 [x0] st g mi mr Q = tw_E sc d 131 237 [x0] st g mi mr Q := tw_x_goto td_131_219 (by decide)
theorem td_131_222 : decode (tw_cd 131) 222 = .ok (.aload_n 0, 1) := by decide +kernel
theorem tz_131_222 : tw_E sc d 131 222 [some (.ref a)] st g mi mr Q = tw_E sc d 131 223 [some (.ref a)] (.ref a :: st) g mi mr Q := tw_x_aload_n td_131_222 rfl
theorem td_131_223 : decode (tw_cd 131) 223 = .ok (.getfield 106, 3) := by decide +kernel
theorem tz_131_223 : tw_E sc d 131 223 [x0] (.ref a :: st) g mi mr Q = (tw_kd g a = 10 ∧ tw_E sc d 131 226 [x0] (.int (mi a 32) :: st) g mi mr Q) := tw_x_geti td_131_223 to_131 tf_10_106 (trf_10_32)
theorem td_131_226 : decode (tw_cd 131) 226 = .ok (.invokestatic 120, 3) := by decide +kernel
theorem tz_131_226 {a0 : Int32} : tw_E sc (d + 1) 131 226 [x0] ([.int a0, s1]) g mi mr Q = tw_E sc d 130 0 [some (.int a0)] [] g mi mr (tw_K sc (d + 1) 131 229 [x0] [s1] Q) := tw_x_cs (as := [.int a0]) (r := [s1]) td_131_226 to_131 tmn_10_120 tc_10_120 rfl rfl rfl rfl rfl
theorem td_131_229 : decode (tw_cd 131) 229 = .ok (.ifCond .eq 7, 3) := by decide +kernel
theorem tz_131_229 : tw_E sc d 131 229 [x0] (.int v :: st) g mi mr Q = if v = 0 then tw_E sc d 131 236 [x0] st g mi mr Q else tw_E sc d 131 232 [x0] st g mi mr Q := tw_x_if_eq td_131_229 (by decide)
theorem td_131_232 : decode (tw_cd 131) 232 = .ok (.iconst 3, 1) := by decide +kernel
theorem tz_131_232 : tw_E sc d 131 232 [x0] st g mi mr Q = tw_E sc d 131 233 [x0] (.int 3 :: st) g mi mr Q := tw_x_iconst td_131_232 (by decide)
theorem td_131_233 : decode (tw_cd 131) 233 = .ok (.goto 4, 3) := by decide +kernel
theorem tz_131_233 : tw_E sc d 131 233 [x0] st g mi mr Q = tw_E sc d 131 237 [x0] st g mi mr Q := tw_x_goto td_131_233 (by decide)
theorem td_131_236 : decode (tw_cd 131) 236 = .ok (.iconst 4, 1) := by decide +kernel
theorem tz_131_236 : tw_E sc d 131 236 [x0] st g mi mr Q = tw_E sc d 131 237 [x0] (.int 4 :: st) g mi mr Q := tw_x_iconst td_131_236 (by decide)
theorem td_131_237 : decode (tw_cd 131) 237 = .ok (.putfield 109, 3) := by decide +kernel
theorem tz_131_237 : tw_E sc d 131 237 [x0] (.int v :: .ref a :: st) g mi mr Q = (tw_kd g a = 10 ∧ tw_E sc d 131 240 [x0] st g (tw_st mi a (tw_st (mi a) 30 v)) mr Q) := tw_x_puti td_131_237 to_131 tf_10_109 rfl rfl
theorem td_131_240 : decode (tw_cd 131) 240 = .ok (.aload_n 0, 1) := by decide +kernel
theorem tz_131_240 : tw_E sc d 131 240 [some (.ref a)] st g mi mr Q = tw_E sc d 131 241 [some (.ref a)] (.ref a :: st) g mi mr Q := tw_x_aload_n td_131_240 rfl
theorem td_131_241 : decode (tw_cd 131) 241 = .ok (.aload_n 0, 1) := by decide +kernel
theorem tz_131_241 : tw_E sc d 131 241 [some (.ref a)] st g mi mr Q = tw_E sc d 131 242 [some (.ref a)] (.ref a :: st) g mi mr Q := tw_x_aload_n td_131_241 rfl
theorem td_131_242 : decode (tw_cd 131) 242 = .ok (.getfield 109, 3) := by decide +kernel
theorem tz_131_242 : tw_E sc d 131 242 [x0] (.ref a :: st) g mi mr Q = (tw_kd g a = 10 ∧ tw_E sc d 131 245 [x0] (.int (mi a 30) :: st) g mi mr Q) := tw_x_geti td_131_242 to_131 tf_10_109 (trf_10_30)
theorem td_131_245 : decode (tw_cd 131) 245 = .ok (.iconst 2, 1) := by decide +kernel
theorem tz_131_245 : tw_E sc d 131 245 [x0] st g mi mr Q = tw_E sc d 131 246 [x0] (.int 2 :: st) g mi mr Q := tw_x_iconst td_131_245 (by decide)
theorem td_131_246 : decode (tw_cd 131) 246 = .ok (.if_icmp .ne 13, 3) := by decide +kernel
theorem tz_131_246 : tw_E sc d 131 246 [x0] (.int w :: .int v :: st) g mi mr Q = if ¬ v = w then tw_E sc d 131 259 [x0] st g mi mr Q else tw_E sc d 131 249 [x0] st g mi mr Q := tw_x_ic_ne td_131_246 (by decide)
theorem td_131_249 : decode (tw_cd 131) 249 = .ok (.aload_n 0, 1) := by decide +kernel
theorem tz_131_249 : tw_E sc d 131 249 [some (.ref a)] st g mi mr Q = tw_E sc d 131 250 [some (.ref a)] (.ref a :: st) g mi mr Q := tw_x_aload_n td_131_249 rfl
theorem td_131_250 : decode (tw_cd 131) 250 = .ok (.getfield 106, 3) := by decide +kernel
theorem tz_131_250 : tw_E sc d 131 250 [x0] (.ref a :: st) g mi mr Q = (tw_kd g a = 10 ∧ tw_E sc d 131 253 [x0] (.int (mi a 32) :: st) g mi mr Q) := tw_x_geti td_131_250 to_131 tf_10_106 (trf_10_32)
theorem td_131_253 : decode (tw_cd 131) 253 = .ok (.bipush 97, 2) := by decide +kernel
theorem tz_131_253 : tw_E sc d 131 253 [x0] st g mi mr Q = tw_E sc d 131 255 [x0] (.int 97 :: st) g mi mr Q := tw_x_bipush td_131_253 (by decide)
theorem td_131_255 : decode (tw_cd 131) 255 = .ok (.isub, 1) := by decide +kernel
theorem tz_131_255 : tw_E sc d 131 255 [x0] (.int w :: .int v :: st) g mi mr Q = tw_E sc d 131 256 [x0] (.int (v - w) :: st) g mi mr Q := tw_x_isub td_131_255
theorem td_131_256 : decode (tw_cd 131) 256 = .ok (.goto 7, 3) := by decide +kernel
theorem tz_131_256 : tw_E sc d 131 256 [x0] st g mi mr Q = tw_E sc d 131 263 [x0] st g mi mr Q := tw_x_goto td_131_256 (by decide)
theorem td_131_259 : decode (tw_cd 131) 259 = .ok (.aload_n 0, 1) := by decide +kernel
theorem tz_131_259 : tw_E sc d 131 259 [some (.ref a)] st g mi mr Q = tw_E sc d 131 260 [some (.ref a)] (.ref a :: st) g mi mr Q := tw_x_aload_n td_131_259 rfl
theorem td_131_260 : decode (tw_cd 131) 260 = .ok (.getfield 106, 3) := by decide +kernel
theorem tz_131_260 : tw_E sc d 131 260 [x0] (.ref a :: st) g mi mr Q = (tw_kd g a = 10 ∧ tw_E sc d 131 263 [x0] (.int (mi a 32) :: st) g mi mr Q) := tw_x_geti td_131_260 to_131 tf_10_106 (trf_10_32)
theorem td_131_263 : decode (tw_cd 131) 263 = .ok (.putfield 106, 3) := by decide +kernel
theorem tz_131_263 : tw_E sc d 131 263 [x0] (.int v :: .ref a :: st) g mi mr Q = (tw_kd g a = 10 ∧ tw_E sc d 131 266 [x0] st g (tw_st mi a (tw_st (mi a) 32 v)) mr Q) := tw_x_puti td_131_263 to_131 tf_10_106 rfl rfl
theorem td_131_266 : decode (tw_cd 131) 266 = .ok (.return_, 1) := by decide +kernel
theorem tz_131_266 : tw_E sc d 131 266 [x0] [] g mi mr Q = Q none g mi mr := tw_x_vret td_131_266 tr_131
end tz_131
-- 132: Mo_isSign
section tz_132
variable {sc : Nat × (Nat → Int32)} {d : Nat} {x0 x1 : Option Value} {st : List Value} {g : tw_G} {mi : tw_I} {mr : tw_Q} {Q : Option Value → tw_G → tw_I → tw_Q → Prop} {v w u : Int32} {a b : Nat} {j h : Int64} {s1 s2 s3 s4 : Value}
theorem td_132_0 : decode (tw_cd 132) 0 = .ok (.aload_n 0, 1) := by decide +kernel
theorem tz_132_0 : tw_E sc d 132 0 [some (.ref a), x1] st g mi mr Q = tw_E sc d 132 1 [some (.ref a), x1] (.ref a :: st) g mi mr Q := tw_x_aload_n td_132_0 rfl
theorem td_132_1 : decode (tw_cd 132) 1 = .ok (.getfield 109, 3) := by decide +kernel
theorem tz_132_1 : tw_E sc d 132 1 [x0, x1] (.ref a :: st) g mi mr Q = (tw_kd g a = 10 ∧ tw_E sc d 132 4 [x0, x1] (.int (mi a 30) :: st) g mi mr Q) := tw_x_geti td_132_1 to_132 tf_10_109 (trf_10_30)
theorem td_132_4 : decode (tw_cd 132) 4 = .ok (.iconst 3, 1) := by decide +kernel
theorem tz_132_4 : tw_E sc d 132 4 [x0, x1] st g mi mr Q = tw_E sc d 132 5 [x0, x1] (.int 3 :: st) g mi mr Q := tw_x_iconst td_132_4 (by decide)
theorem td_132_5 : decode (tw_cd 132) 5 = .ok (.if_icmp .ne 15, 3) := by decide +kernel
theorem tz_132_5 : tw_E sc d 132 5 [x0, x1] (.int w :: .int v :: st) g mi mr Q = if ¬ v = w then tw_E sc d 132 20 [x0, x1] st g mi mr Q else tw_E sc d 132 8 [x0, x1] st g mi mr Q := tw_x_ic_ne td_132_5 (by decide)
theorem td_132_8 : decode (tw_cd 132) 8 = .ok (.aload_n 0, 1) := by decide +kernel
theorem tz_132_8 : tw_E sc d 132 8 [some (.ref a), x1] st g mi mr Q = tw_E sc d 132 9 [some (.ref a), x1] (.ref a :: st) g mi mr Q := tw_x_aload_n td_132_8 rfl
theorem td_132_9 : decode (tw_cd 132) 9 = .ok (.getfield 106, 3) := by decide +kernel
theorem tz_132_9 : tw_E sc d 132 9 [x0, x1] (.ref a :: st) g mi mr Q = (tw_kd g a = 10 ∧ tw_E sc d 132 12 [x0, x1] (.int (mi a 32) :: st) g mi mr Q) := tw_x_geti td_132_9 to_132 tf_10_106 (trf_10_32)
theorem td_132_12 : decode (tw_cd 132) 12 = .ok (.iload_n 1, 1) := by decide +kernel
theorem tz_132_12 : tw_E sc d 132 12 [x0, some (.int v)] st g mi mr Q = tw_E sc d 132 13 [x0, some (.int v)] (.int v :: st) g mi mr Q := tw_x_iload_n td_132_12 rfl
theorem td_132_13 : decode (tw_cd 132) 13 = .ok (.if_icmp .ne 7, 3) := by decide +kernel
theorem tz_132_13 : tw_E sc d 132 13 [x0, x1] (.int w :: .int v :: st) g mi mr Q = if ¬ v = w then tw_E sc d 132 20 [x0, x1] st g mi mr Q else tw_E sc d 132 16 [x0, x1] st g mi mr Q := tw_x_ic_ne td_132_13 (by decide)
theorem td_132_16 : decode (tw_cd 132) 16 = .ok (.iconst 1, 1) := by decide +kernel
theorem tz_132_16 : tw_E sc d 132 16 [x0, x1] st g mi mr Q = tw_E sc d 132 17 [x0, x1] (.int 1 :: st) g mi mr Q := tw_x_iconst td_132_16 (by decide)
theorem td_132_17 : decode (tw_cd 132) 17 = .ok (.goto 4, 3) := by decide +kernel
theorem tz_132_17 : tw_E sc d 132 17 [x0, x1] st g mi mr Q = tw_E sc d 132 21 [x0, x1] st g mi mr Q := tw_x_goto td_132_17 (by decide)
theorem td_132_20 : decode (tw_cd 132) 20 = .ok (.iconst 0, 1) := by decide +kernel
theorem tz_132_20 : tw_E sc d 132 20 [x0, x1] st g mi mr Q = tw_E sc d 132 21 [x0, x1] (.int 0 :: st) g mi mr Q := tw_x_iconst td_132_20 (by decide)
theorem td_132_21 : decode (tw_cd 132) 21 = .ok (.ireturn, 1) := by decide +kernel
theorem tz_132_21 : tw_E sc d 132 21 [x0, x1] ([.int v]) g mi mr Q = ((v = 0 ∨ v = 1) ∧ Q (some (.int v)) g mi mr) := tw_x_zret td_132_21 tr_132
end tz_132
-- 133: Mo_node1
section tz_133
variable {sc : Nat × (Nat → Int32)} {d : Nat} {x0 x1 x2 x3 x4 x5 : Option Value} {st : List Value} {g : tw_G} {mi : tw_I} {mr : tw_Q} {Q : Option Value → tw_G → tw_I → tw_Q → Prop} {v w u : Int32} {a b : Nat} {j h : Int64} {s1 s2 s3 s4 : Value}
theorem td_133_0 : decode (tw_cd 133) 0 = .ok (.aload_n 0, 1) := by decide +kernel
theorem tz_133_0 : tw_E sc d 133 0 [some (.ref a), x1, x2, x3, x4, x5] st g mi mr Q = tw_E sc d 133 1 [some (.ref a), x1, x2, x3, x4, x5] (.ref a :: st) g mi mr Q := tw_x_aload_n td_133_0 rfl
theorem td_133_1 : decode (tw_cd 133) 1 = .ok (.getfield 28, 3) := by decide +kernel
theorem tz_133_1 : tw_E sc d 133 1 [x0, x1, x2, x3, x4, x5] (.ref a :: st) g mi mr Q = (tw_kd g a = 10 ∧ tw_E sc d 133 4 [x0, x1, x2, x3, x4, x5] (va_rf (mr a 12) :: st) g mi mr Q) := tw_x_getr td_133_1 to_133 tf_10_28 (trf_10_12)
theorem td_133_4 : decode (tw_cd 133) 4 = .ok (.aload_n 0, 1) := by decide +kernel
theorem tz_133_4 : tw_E sc d 133 4 [some (.ref a), x1, x2, x3, x4, x5] st g mi mr Q = tw_E sc d 133 5 [some (.ref a), x1, x2, x3, x4, x5] (.ref a :: st) g mi mr Q := tw_x_aload_n td_133_4 rfl
theorem td_133_5 : decode (tw_cd 133) 5 = .ok (.getfield 123, 3) := by decide +kernel
theorem tz_133_5 : tw_E sc d 133 5 [x0, x1, x2, x3, x4, x5] (.ref a :: st) g mi mr Q = (tw_kd g a = 10 ∧ tw_E sc d 133 8 [x0, x1, x2, x3, x4, x5] (.int (mi a 11) :: st) g mi mr Q) := tw_x_geti td_133_5 to_133 tf_10_123 (trf_10_11)
theorem td_133_8 : decode (tw_cd 133) 8 = .ok (.iload_n 1, 1) := by decide +kernel
theorem tz_133_8 : tw_E sc d 133 8 [x0, some (.int v), x2, x3, x4, x5] st g mi mr Q = tw_E sc d 133 9 [x0, some (.int v), x2, x3, x4, x5] (.int v :: st) g mi mr Q := tw_x_iload_n td_133_8 rfl
theorem td_133_9 : decode (tw_cd 133) 9 = .ok (.iastore, 1) := by decide +kernel
theorem tz_133_9 : tw_E sc d 133 9 [x0, x1, x2, x3, x4, x5] (.int w :: .int v :: .ref a :: st) g mi mr Q = ((tw_kd g a = 20 ∧ vp_in v (tw_ln g a)) ∧ tw_E sc d 133 10 [x0, x1, x2, x3, x4, x5] st g (tw_st mi a (tw_st (mi a) v.toNatClampNeg w)) mr Q) := tw_x_iast td_133_9
theorem td_133_10 : decode (tw_cd 133) 10 = .ok (.aload_n 0, 1) := by decide +kernel
theorem tz_133_10 : tw_E sc d 133 10 [some (.ref a), x1, x2, x3, x4, x5] st g mi mr Q = tw_E sc d 133 11 [some (.ref a), x1, x2, x3, x4, x5] (.ref a :: st) g mi mr Q := tw_x_aload_n td_133_10 rfl
theorem td_133_11 : decode (tw_cd 133) 11 = .ok (.getfield 31, 3) := by decide +kernel
theorem tz_133_11 : tw_E sc d 133 11 [x0, x1, x2, x3, x4, x5] (.ref a :: st) g mi mr Q = (tw_kd g a = 10 ∧ tw_E sc d 133 14 [x0, x1, x2, x3, x4, x5] (va_rf (mr a 13) :: st) g mi mr Q) := tw_x_getr td_133_11 to_133 tf_10_31 (trf_10_13)
theorem td_133_14 : decode (tw_cd 133) 14 = .ok (.aload_n 0, 1) := by decide +kernel
theorem tz_133_14 : tw_E sc d 133 14 [some (.ref a), x1, x2, x3, x4, x5] st g mi mr Q = tw_E sc d 133 15 [some (.ref a), x1, x2, x3, x4, x5] (.ref a :: st) g mi mr Q := tw_x_aload_n td_133_14 rfl
theorem td_133_15 : decode (tw_cd 133) 15 = .ok (.getfield 123, 3) := by decide +kernel
theorem tz_133_15 : tw_E sc d 133 15 [x0, x1, x2, x3, x4, x5] (.ref a :: st) g mi mr Q = (tw_kd g a = 10 ∧ tw_E sc d 133 18 [x0, x1, x2, x3, x4, x5] (.int (mi a 11) :: st) g mi mr Q) := tw_x_geti td_133_15 to_133 tf_10_123 (trf_10_11)
theorem td_133_18 : decode (tw_cd 133) 18 = .ok (.iload_n 2, 1) := by decide +kernel
theorem tz_133_18 : tw_E sc d 133 18 [x0, x1, some (.int v), x3, x4, x5] st g mi mr Q = tw_E sc d 133 19 [x0, x1, some (.int v), x3, x4, x5] (.int v :: st) g mi mr Q := tw_x_iload_n td_133_18 rfl
theorem td_133_19 : decode (tw_cd 133) 19 = .ok (.iastore, 1) := by decide +kernel
theorem tz_133_19 : tw_E sc d 133 19 [x0, x1, x2, x3, x4, x5] (.int w :: .int v :: .ref a :: st) g mi mr Q = ((tw_kd g a = 20 ∧ vp_in v (tw_ln g a)) ∧ tw_E sc d 133 20 [x0, x1, x2, x3, x4, x5] st g (tw_st mi a (tw_st (mi a) v.toNatClampNeg w)) mr Q) := tw_x_iast td_133_19
theorem td_133_20 : decode (tw_cd 133) 20 = .ok (.aload_n 0, 1) := by decide +kernel
theorem tz_133_20 : tw_E sc d 133 20 [some (.ref a), x1, x2, x3, x4, x5] st g mi mr Q = tw_E sc d 133 21 [some (.ref a), x1, x2, x3, x4, x5] (.ref a :: st) g mi mr Q := tw_x_aload_n td_133_20 rfl
theorem td_133_21 : decode (tw_cd 133) 21 = .ok (.getfield 34, 3) := by decide +kernel
theorem tz_133_21 : tw_E sc d 133 21 [x0, x1, x2, x3, x4, x5] (.ref a :: st) g mi mr Q = (tw_kd g a = 10 ∧ tw_E sc d 133 24 [x0, x1, x2, x3, x4, x5] (va_rf (mr a 14) :: st) g mi mr Q) := tw_x_getr td_133_21 to_133 tf_10_34 (trf_10_14)
theorem td_133_24 : decode (tw_cd 133) 24 = .ok (.aload_n 0, 1) := by decide +kernel
theorem tz_133_24 : tw_E sc d 133 24 [some (.ref a), x1, x2, x3, x4, x5] st g mi mr Q = tw_E sc d 133 25 [some (.ref a), x1, x2, x3, x4, x5] (.ref a :: st) g mi mr Q := tw_x_aload_n td_133_24 rfl
theorem td_133_25 : decode (tw_cd 133) 25 = .ok (.getfield 123, 3) := by decide +kernel
theorem tz_133_25 : tw_E sc d 133 25 [x0, x1, x2, x3, x4, x5] (.ref a :: st) g mi mr Q = (tw_kd g a = 10 ∧ tw_E sc d 133 28 [x0, x1, x2, x3, x4, x5] (.int (mi a 11) :: st) g mi mr Q) := tw_x_geti td_133_25 to_133 tf_10_123 (trf_10_11)
theorem td_133_28 : decode (tw_cd 133) 28 = .ok (.iload_n 3, 1) := by decide +kernel
theorem tz_133_28 : tw_E sc d 133 28 [x0, x1, x2, some (.int v), x4, x5] st g mi mr Q = tw_E sc d 133 29 [x0, x1, x2, some (.int v), x4, x5] (.int v :: st) g mi mr Q := tw_x_iload_n td_133_28 rfl
theorem td_133_29 : decode (tw_cd 133) 29 = .ok (.iastore, 1) := by decide +kernel
theorem tz_133_29 : tw_E sc d 133 29 [x0, x1, x2, x3, x4, x5] (.int w :: .int v :: .ref a :: st) g mi mr Q = ((tw_kd g a = 20 ∧ vp_in v (tw_ln g a)) ∧ tw_E sc d 133 30 [x0, x1, x2, x3, x4, x5] st g (tw_st mi a (tw_st (mi a) v.toNatClampNeg w)) mr Q) := tw_x_iast td_133_29
theorem td_133_30 : decode (tw_cd 133) 30 = .ok (.aload_n 0, 1) := by decide +kernel
theorem tz_133_30 : tw_E sc d 133 30 [some (.ref a), x1, x2, x3, x4, x5] st g mi mr Q = tw_E sc d 133 31 [some (.ref a), x1, x2, x3, x4, x5] (.ref a :: st) g mi mr Q := tw_x_aload_n td_133_30 rfl
theorem td_133_31 : decode (tw_cd 133) 31 = .ok (.getfield 37, 3) := by decide +kernel
theorem tz_133_31 : tw_E sc d 133 31 [x0, x1, x2, x3, x4, x5] (.ref a :: st) g mi mr Q = (tw_kd g a = 10 ∧ tw_E sc d 133 34 [x0, x1, x2, x3, x4, x5] (va_rf (mr a 15) :: st) g mi mr Q) := tw_x_getr td_133_31 to_133 tf_10_37 (trf_10_15)
theorem td_133_34 : decode (tw_cd 133) 34 = .ok (.aload_n 0, 1) := by decide +kernel
theorem tz_133_34 : tw_E sc d 133 34 [some (.ref a), x1, x2, x3, x4, x5] st g mi mr Q = tw_E sc d 133 35 [some (.ref a), x1, x2, x3, x4, x5] (.ref a :: st) g mi mr Q := tw_x_aload_n td_133_34 rfl
theorem td_133_35 : decode (tw_cd 133) 35 = .ok (.getfield 123, 3) := by decide +kernel
theorem tz_133_35 : tw_E sc d 133 35 [x0, x1, x2, x3, x4, x5] (.ref a :: st) g mi mr Q = (tw_kd g a = 10 ∧ tw_E sc d 133 38 [x0, x1, x2, x3, x4, x5] (.int (mi a 11) :: st) g mi mr Q) := tw_x_geti td_133_35 to_133 tf_10_123 (trf_10_11)
theorem td_133_38 : decode (tw_cd 133) 38 = .ok (.iload 4, 2) := by decide +kernel
theorem tz_133_38 : tw_E sc d 133 38 [x0, x1, x2, x3, some (.int v), x5] st g mi mr Q = tw_E sc d 133 40 [x0, x1, x2, x3, some (.int v), x5] (.int v :: st) g mi mr Q := tw_x_iload td_133_38 rfl
theorem td_133_40 : decode (tw_cd 133) 40 = .ok (.iastore, 1) := by decide +kernel
theorem tz_133_40 : tw_E sc d 133 40 [x0, x1, x2, x3, x4, x5] (.int w :: .int v :: .ref a :: st) g mi mr Q = ((tw_kd g a = 20 ∧ vp_in v (tw_ln g a)) ∧ tw_E sc d 133 41 [x0, x1, x2, x3, x4, x5] st g (tw_st mi a (tw_st (mi a) v.toNatClampNeg w)) mr Q) := tw_x_iast td_133_40
theorem td_133_41 : decode (tw_cd 133) 41 = .ok (.aload_n 0, 1) := by decide +kernel
theorem tz_133_41 : tw_E sc d 133 41 [some (.ref a), x1, x2, x3, x4, x5] st g mi mr Q = tw_E sc d 133 42 [some (.ref a), x1, x2, x3, x4, x5] (.ref a :: st) g mi mr Q := tw_x_aload_n td_133_41 rfl
theorem td_133_42 : decode (tw_cd 133) 42 = .ok (.getfield 40, 3) := by decide +kernel
theorem tz_133_42 : tw_E sc d 133 42 [x0, x1, x2, x3, x4, x5] (.ref a :: st) g mi mr Q = (tw_kd g a = 10 ∧ tw_E sc d 133 45 [x0, x1, x2, x3, x4, x5] (va_rf (mr a 16) :: st) g mi mr Q) := tw_x_getr td_133_42 to_133 tf_10_40 (trf_10_16)
theorem td_133_45 : decode (tw_cd 133) 45 = .ok (.aload_n 0, 1) := by decide +kernel
theorem tz_133_45 : tw_E sc d 133 45 [some (.ref a), x1, x2, x3, x4, x5] st g mi mr Q = tw_E sc d 133 46 [some (.ref a), x1, x2, x3, x4, x5] (.ref a :: st) g mi mr Q := tw_x_aload_n td_133_45 rfl
theorem td_133_46 : decode (tw_cd 133) 46 = .ok (.getfield 123, 3) := by decide +kernel
theorem tz_133_46 : tw_E sc d 133 46 [x0, x1, x2, x3, x4, x5] (.ref a :: st) g mi mr Q = (tw_kd g a = 10 ∧ tw_E sc d 133 49 [x0, x1, x2, x3, x4, x5] (.int (mi a 11) :: st) g mi mr Q) := tw_x_geti td_133_46 to_133 tf_10_123 (trf_10_11)
theorem td_133_49 : decode (tw_cd 133) 49 = .ok (.iload 5, 2) := by decide +kernel
theorem tz_133_49 : tw_E sc d 133 49 [x0, x1, x2, x3, x4, some (.int v)] st g mi mr Q = tw_E sc d 133 51 [x0, x1, x2, x3, x4, some (.int v)] (.int v :: st) g mi mr Q := tw_x_iload td_133_49 rfl
theorem td_133_51 : decode (tw_cd 133) 51 = .ok (.iastore, 1) := by decide +kernel
theorem tz_133_51 : tw_E sc d 133 51 [x0, x1, x2, x3, x4, x5] (.int w :: .int v :: .ref a :: st) g mi mr Q = ((tw_kd g a = 20 ∧ vp_in v (tw_ln g a)) ∧ tw_E sc d 133 52 [x0, x1, x2, x3, x4, x5] st g (tw_st mi a (tw_st (mi a) v.toNatClampNeg w)) mr Q) := tw_x_iast td_133_51
theorem td_133_52 : decode (tw_cd 133) 52 = .ok (.aload_n 0, 1) := by decide +kernel
theorem tz_133_52 : tw_E sc d 133 52 [some (.ref a), x1, x2, x3, x4, x5] st g mi mr Q = tw_E sc d 133 53 [some (.ref a), x1, x2, x3, x4, x5] (.ref a :: st) g mi mr Q := tw_x_aload_n td_133_52 rfl
theorem td_133_53 : decode (tw_cd 133) 53 = .ok (.dup, 1) := by decide +kernel
theorem tz_133_53 : tw_E sc d 133 53 [x0, x1, x2, x3, x4, x5] (.ref a :: st) g mi mr Q = tw_E sc d 133 54 [x0, x1, x2, x3, x4, x5] (.ref a :: .ref a :: st) g mi mr Q := tw_x_dup_ref td_133_53
theorem td_133_54 : decode (tw_cd 133) 54 = .ok (.getfield 123, 3) := by decide +kernel
theorem tz_133_54 : tw_E sc d 133 54 [x0, x1, x2, x3, x4, x5] (.ref a :: st) g mi mr Q = (tw_kd g a = 10 ∧ tw_E sc d 133 57 [x0, x1, x2, x3, x4, x5] (.int (mi a 11) :: st) g mi mr Q) := tw_x_geti td_133_54 to_133 tf_10_123 (trf_10_11)
theorem td_133_57 : decode (tw_cd 133) 57 = .ok (.iconst 1, 1) := by decide +kernel
theorem tz_133_57 : tw_E sc d 133 57 [x0, x1, x2, x3, x4, x5] st g mi mr Q = tw_E sc d 133 58 [x0, x1, x2, x3, x4, x5] (.int 1 :: st) g mi mr Q := tw_x_iconst td_133_57 (by decide)
theorem td_133_58 : decode (tw_cd 133) 58 = .ok (.iadd, 1) := by decide +kernel
theorem tz_133_58 : tw_E sc d 133 58 [x0, x1, x2, x3, x4, x5] (.int w :: .int v :: st) g mi mr Q = tw_E sc d 133 59 [x0, x1, x2, x3, x4, x5] (.int (v + w) :: st) g mi mr Q := tw_x_iadd td_133_58
theorem td_133_59 : decode (tw_cd 133) 59 = .ok (.putfield 123, 3) := by decide +kernel
theorem tz_133_59 : tw_E sc d 133 59 [x0, x1, x2, x3, x4, x5] (.int v :: .ref a :: st) g mi mr Q = (tw_kd g a = 10 ∧ tw_E sc d 133 62 [x0, x1, x2, x3, x4, x5] st g (tw_st mi a (tw_st (mi a) 11 v)) mr Q) := tw_x_puti td_133_59 to_133 tf_10_123 rfl rfl
theorem td_133_62 : decode (tw_cd 133) 62 = .ok (.aload_n 0, 1) := by decide +kernel
theorem tz_133_62 : tw_E sc d 133 62 [some (.ref a), x1, x2, x3, x4, x5] st g mi mr Q = tw_E sc d 133 63 [some (.ref a), x1, x2, x3, x4, x5] (.ref a :: st) g mi mr Q := tw_x_aload_n td_133_62 rfl
theorem td_133_63 : decode (tw_cd 133) 63 = .ok (.getfield 123, 3) := by decide +kernel
theorem tz_133_63 : tw_E sc d 133 63 [x0, x1, x2, x3, x4, x5] (.ref a :: st) g mi mr Q = (tw_kd g a = 10 ∧ tw_E sc d 133 66 [x0, x1, x2, x3, x4, x5] (.int (mi a 11) :: st) g mi mr Q) := tw_x_geti td_133_63 to_133 tf_10_123 (trf_10_11)
theorem td_133_66 : decode (tw_cd 133) 66 = .ok (.iconst 1, 1) := by decide +kernel
theorem tz_133_66 : tw_E sc d 133 66 [x0, x1, x2, x3, x4, x5] st g mi mr Q = tw_E sc d 133 67 [x0, x1, x2, x3, x4, x5] (.int 1 :: st) g mi mr Q := tw_x_iconst td_133_66 (by decide)
theorem td_133_67 : decode (tw_cd 133) 67 = .ok (.isub, 1) := by decide +kernel
theorem tz_133_67 : tw_E sc d 133 67 [x0, x1, x2, x3, x4, x5] (.int w :: .int v :: st) g mi mr Q = tw_E sc d 133 68 [x0, x1, x2, x3, x4, x5] (.int (v - w) :: st) g mi mr Q := tw_x_isub td_133_67
theorem td_133_68 : decode (tw_cd 133) 68 = .ok (.ireturn, 1) := by decide +kernel
theorem tz_133_68 : tw_E sc d 133 68 [x0, x1, x2, x3, x4, x5] ([.int v]) g mi mr Q = Q (some (.int v)) g mi mr := tw_x_iret td_133_68 tr_133
end tz_133
-- 134: Mo_push
section tz_134
variable {sc : Nat × (Nat → Int32)} {d : Nat} {x0 x1 x2 x3 x4 : Option Value} {st : List Value} {g : tw_G} {mi : tw_I} {mr : tw_Q} {Q : Option Value → tw_G → tw_I → tw_Q → Prop} {v w u : Int32} {a b : Nat} {j h : Int64} {s1 s2 s3 s4 : Value}
theorem td_134_0 : decode (tw_cd 134) 0 = .ok (.aload_n 0, 1) := by decide +kernel
theorem tz_134_0 : tw_E sc d 134 0 [some (.ref a), x1, x2, x3, x4] st g mi mr Q = tw_E sc d 134 1 [some (.ref a), x1, x2, x3, x4] (.ref a :: st) g mi mr Q := tw_x_aload_n td_134_0 rfl
theorem td_134_1 : decode (tw_cd 134) 1 = .ok (.getfield 71, 3) := by decide +kernel
theorem tz_134_1 : tw_E sc d 134 1 [x0, x1, x2, x3, x4] (.ref a :: st) g mi mr Q = (tw_kd g a = 10 ∧ tw_E sc d 134 4 [x0, x1, x2, x3, x4] (va_rf (mr a 34) :: st) g mi mr Q) := tw_x_getr td_134_1 to_134 tf_10_71 (trf_10_34)
theorem td_134_4 : decode (tw_cd 134) 4 = .ok (.aload_n 0, 1) := by decide +kernel
theorem tz_134_4 : tw_E sc d 134 4 [some (.ref a), x1, x2, x3, x4] st g mi mr Q = tw_E sc d 134 5 [some (.ref a), x1, x2, x3, x4] (.ref a :: st) g mi mr Q := tw_x_aload_n td_134_4 rfl
theorem td_134_5 : decode (tw_cd 134) 5 = .ok (.getfield 126, 3) := by decide +kernel
theorem tz_134_5 : tw_E sc d 134 5 [x0, x1, x2, x3, x4] (.ref a :: st) g mi mr Q = (tw_kd g a = 10 ∧ tw_E sc d 134 8 [x0, x1, x2, x3, x4] (.int (mi a 33) :: st) g mi mr Q) := tw_x_geti td_134_5 to_134 tf_10_126 (trf_10_33)
theorem td_134_8 : decode (tw_cd 134) 8 = .ok (.iload_n 1, 1) := by decide +kernel
theorem tz_134_8 : tw_E sc d 134 8 [x0, some (.int v), x2, x3, x4] st g mi mr Q = tw_E sc d 134 9 [x0, some (.int v), x2, x3, x4] (.int v :: st) g mi mr Q := tw_x_iload_n td_134_8 rfl
theorem td_134_9 : decode (tw_cd 134) 9 = .ok (.iastore, 1) := by decide +kernel
theorem tz_134_9 : tw_E sc d 134 9 [x0, x1, x2, x3, x4] (.int w :: .int v :: .ref a :: st) g mi mr Q = ((tw_kd g a = 20 ∧ vp_in v (tw_ln g a)) ∧ tw_E sc d 134 10 [x0, x1, x2, x3, x4] st g (tw_st mi a (tw_st (mi a) v.toNatClampNeg w)) mr Q) := tw_x_iast td_134_9
theorem td_134_10 : decode (tw_cd 134) 10 = .ok (.aload_n 0, 1) := by decide +kernel
theorem tz_134_10 : tw_E sc d 134 10 [some (.ref a), x1, x2, x3, x4] st g mi mr Q = tw_E sc d 134 11 [some (.ref a), x1, x2, x3, x4] (.ref a :: st) g mi mr Q := tw_x_aload_n td_134_10 rfl
theorem td_134_11 : decode (tw_cd 134) 11 = .ok (.getfield 74, 3) := by decide +kernel
theorem tz_134_11 : tw_E sc d 134 11 [x0, x1, x2, x3, x4] (.ref a :: st) g mi mr Q = (tw_kd g a = 10 ∧ tw_E sc d 134 14 [x0, x1, x2, x3, x4] (va_rf (mr a 35) :: st) g mi mr Q) := tw_x_getr td_134_11 to_134 tf_10_74 (trf_10_35)
theorem td_134_14 : decode (tw_cd 134) 14 = .ok (.aload_n 0, 1) := by decide +kernel
theorem tz_134_14 : tw_E sc d 134 14 [some (.ref a), x1, x2, x3, x4] st g mi mr Q = tw_E sc d 134 15 [some (.ref a), x1, x2, x3, x4] (.ref a :: st) g mi mr Q := tw_x_aload_n td_134_14 rfl
theorem td_134_15 : decode (tw_cd 134) 15 = .ok (.getfield 126, 3) := by decide +kernel
theorem tz_134_15 : tw_E sc d 134 15 [x0, x1, x2, x3, x4] (.ref a :: st) g mi mr Q = (tw_kd g a = 10 ∧ tw_E sc d 134 18 [x0, x1, x2, x3, x4] (.int (mi a 33) :: st) g mi mr Q) := tw_x_geti td_134_15 to_134 tf_10_126 (trf_10_33)
theorem td_134_18 : decode (tw_cd 134) 18 = .ok (.iload_n 2, 1) := by decide +kernel
theorem tz_134_18 : tw_E sc d 134 18 [x0, x1, some (.int v), x3, x4] st g mi mr Q = tw_E sc d 134 19 [x0, x1, some (.int v), x3, x4] (.int v :: st) g mi mr Q := tw_x_iload_n td_134_18 rfl
theorem td_134_19 : decode (tw_cd 134) 19 = .ok (.iastore, 1) := by decide +kernel
theorem tz_134_19 : tw_E sc d 134 19 [x0, x1, x2, x3, x4] (.int w :: .int v :: .ref a :: st) g mi mr Q = ((tw_kd g a = 20 ∧ vp_in v (tw_ln g a)) ∧ tw_E sc d 134 20 [x0, x1, x2, x3, x4] st g (tw_st mi a (tw_st (mi a) v.toNatClampNeg w)) mr Q) := tw_x_iast td_134_19
theorem td_134_20 : decode (tw_cd 134) 20 = .ok (.aload_n 0, 1) := by decide +kernel
theorem tz_134_20 : tw_E sc d 134 20 [some (.ref a), x1, x2, x3, x4] st g mi mr Q = tw_E sc d 134 21 [some (.ref a), x1, x2, x3, x4] (.ref a :: st) g mi mr Q := tw_x_aload_n td_134_20 rfl
theorem td_134_21 : decode (tw_cd 134) 21 = .ok (.getfield 77, 3) := by decide +kernel
theorem tz_134_21 : tw_E sc d 134 21 [x0, x1, x2, x3, x4] (.ref a :: st) g mi mr Q = (tw_kd g a = 10 ∧ tw_E sc d 134 24 [x0, x1, x2, x3, x4] (va_rf (mr a 36) :: st) g mi mr Q) := tw_x_getr td_134_21 to_134 tf_10_77 (trf_10_36)
theorem td_134_24 : decode (tw_cd 134) 24 = .ok (.aload_n 0, 1) := by decide +kernel
theorem tz_134_24 : tw_E sc d 134 24 [some (.ref a), x1, x2, x3, x4] st g mi mr Q = tw_E sc d 134 25 [some (.ref a), x1, x2, x3, x4] (.ref a :: st) g mi mr Q := tw_x_aload_n td_134_24 rfl
theorem td_134_25 : decode (tw_cd 134) 25 = .ok (.getfield 126, 3) := by decide +kernel
theorem tz_134_25 : tw_E sc d 134 25 [x0, x1, x2, x3, x4] (.ref a :: st) g mi mr Q = (tw_kd g a = 10 ∧ tw_E sc d 134 28 [x0, x1, x2, x3, x4] (.int (mi a 33) :: st) g mi mr Q) := tw_x_geti td_134_25 to_134 tf_10_126 (trf_10_33)
theorem td_134_28 : decode (tw_cd 134) 28 = .ok (.iload_n 3, 1) := by decide +kernel
theorem tz_134_28 : tw_E sc d 134 28 [x0, x1, x2, some (.int v), x4] st g mi mr Q = tw_E sc d 134 29 [x0, x1, x2, some (.int v), x4] (.int v :: st) g mi mr Q := tw_x_iload_n td_134_28 rfl
theorem td_134_29 : decode (tw_cd 134) 29 = .ok (.iastore, 1) := by decide +kernel
theorem tz_134_29 : tw_E sc d 134 29 [x0, x1, x2, x3, x4] (.int w :: .int v :: .ref a :: st) g mi mr Q = ((tw_kd g a = 20 ∧ vp_in v (tw_ln g a)) ∧ tw_E sc d 134 30 [x0, x1, x2, x3, x4] st g (tw_st mi a (tw_st (mi a) v.toNatClampNeg w)) mr Q) := tw_x_iast td_134_29
theorem td_134_30 : decode (tw_cd 134) 30 = .ok (.aload_n 0, 1) := by decide +kernel
theorem tz_134_30 : tw_E sc d 134 30 [some (.ref a), x1, x2, x3, x4] st g mi mr Q = tw_E sc d 134 31 [some (.ref a), x1, x2, x3, x4] (.ref a :: st) g mi mr Q := tw_x_aload_n td_134_30 rfl
theorem td_134_31 : decode (tw_cd 134) 31 = .ok (.getfield 80, 3) := by decide +kernel
theorem tz_134_31 : tw_E sc d 134 31 [x0, x1, x2, x3, x4] (.ref a :: st) g mi mr Q = (tw_kd g a = 10 ∧ tw_E sc d 134 34 [x0, x1, x2, x3, x4] (va_rf (mr a 37) :: st) g mi mr Q) := tw_x_getr td_134_31 to_134 tf_10_80 (trf_10_37)
theorem td_134_34 : decode (tw_cd 134) 34 = .ok (.aload_n 0, 1) := by decide +kernel
theorem tz_134_34 : tw_E sc d 134 34 [some (.ref a), x1, x2, x3, x4] st g mi mr Q = tw_E sc d 134 35 [some (.ref a), x1, x2, x3, x4] (.ref a :: st) g mi mr Q := tw_x_aload_n td_134_34 rfl
theorem td_134_35 : decode (tw_cd 134) 35 = .ok (.getfield 126, 3) := by decide +kernel
theorem tz_134_35 : tw_E sc d 134 35 [x0, x1, x2, x3, x4] (.ref a :: st) g mi mr Q = (tw_kd g a = 10 ∧ tw_E sc d 134 38 [x0, x1, x2, x3, x4] (.int (mi a 33) :: st) g mi mr Q) := tw_x_geti td_134_35 to_134 tf_10_126 (trf_10_33)
theorem td_134_38 : decode (tw_cd 134) 38 = .ok (.iload 4, 2) := by decide +kernel
theorem tz_134_38 : tw_E sc d 134 38 [x0, x1, x2, x3, some (.int v)] st g mi mr Q = tw_E sc d 134 40 [x0, x1, x2, x3, some (.int v)] (.int v :: st) g mi mr Q := tw_x_iload td_134_38 rfl
theorem td_134_40 : decode (tw_cd 134) 40 = .ok (.iastore, 1) := by decide +kernel
theorem tz_134_40 : tw_E sc d 134 40 [x0, x1, x2, x3, x4] (.int w :: .int v :: .ref a :: st) g mi mr Q = ((tw_kd g a = 20 ∧ vp_in v (tw_ln g a)) ∧ tw_E sc d 134 41 [x0, x1, x2, x3, x4] st g (tw_st mi a (tw_st (mi a) v.toNatClampNeg w)) mr Q) := tw_x_iast td_134_40
theorem td_134_41 : decode (tw_cd 134) 41 = .ok (.aload_n 0, 1) := by decide +kernel
theorem tz_134_41 : tw_E sc d 134 41 [some (.ref a), x1, x2, x3, x4] st g mi mr Q = tw_E sc d 134 42 [some (.ref a), x1, x2, x3, x4] (.ref a :: st) g mi mr Q := tw_x_aload_n td_134_41 rfl
theorem td_134_42 : decode (tw_cd 134) 42 = .ok (.dup, 1) := by decide +kernel
theorem tz_134_42 : tw_E sc d 134 42 [x0, x1, x2, x3, x4] (.ref a :: st) g mi mr Q = tw_E sc d 134 43 [x0, x1, x2, x3, x4] (.ref a :: .ref a :: st) g mi mr Q := tw_x_dup_ref td_134_42
theorem td_134_43 : decode (tw_cd 134) 43 = .ok (.getfield 126, 3) := by decide +kernel
theorem tz_134_43 : tw_E sc d 134 43 [x0, x1, x2, x3, x4] (.ref a :: st) g mi mr Q = (tw_kd g a = 10 ∧ tw_E sc d 134 46 [x0, x1, x2, x3, x4] (.int (mi a 33) :: st) g mi mr Q) := tw_x_geti td_134_43 to_134 tf_10_126 (trf_10_33)
theorem td_134_46 : decode (tw_cd 134) 46 = .ok (.iconst 1, 1) := by decide +kernel
theorem tz_134_46 : tw_E sc d 134 46 [x0, x1, x2, x3, x4] st g mi mr Q = tw_E sc d 134 47 [x0, x1, x2, x3, x4] (.int 1 :: st) g mi mr Q := tw_x_iconst td_134_46 (by decide)
theorem td_134_47 : decode (tw_cd 134) 47 = .ok (.iadd, 1) := by decide +kernel
theorem tz_134_47 : tw_E sc d 134 47 [x0, x1, x2, x3, x4] (.int w :: .int v :: st) g mi mr Q = tw_E sc d 134 48 [x0, x1, x2, x3, x4] (.int (v + w) :: st) g mi mr Q := tw_x_iadd td_134_47
theorem td_134_48 : decode (tw_cd 134) 48 = .ok (.putfield 126, 3) := by decide +kernel
theorem tz_134_48 : tw_E sc d 134 48 [x0, x1, x2, x3, x4] (.int v :: .ref a :: st) g mi mr Q = (tw_kd g a = 10 ∧ tw_E sc d 134 51 [x0, x1, x2, x3, x4] st g (tw_st mi a (tw_st (mi a) 33 v)) mr Q) := tw_x_puti td_134_48 to_134 tf_10_126 rfl rfl
theorem td_134_51 : decode (tw_cd 134) 51 = .ok (.aload_n 0, 1) := by decide +kernel
theorem tz_134_51 : tw_E sc d 134 51 [some (.ref a), x1, x2, x3, x4] st g mi mr Q = tw_E sc d 134 52 [some (.ref a), x1, x2, x3, x4] (.ref a :: st) g mi mr Q := tw_x_aload_n td_134_51 rfl
theorem td_134_52 : decode (tw_cd 134) 52 = .ok (.dup, 1) := by decide +kernel
theorem tz_134_52 : tw_E sc d 134 52 [x0, x1, x2, x3, x4] (.ref a :: st) g mi mr Q = tw_E sc d 134 53 [x0, x1, x2, x3, x4] (.ref a :: .ref a :: st) g mi mr Q := tw_x_dup_ref td_134_52
theorem td_134_53 : decode (tw_cd 134) 53 = .ok (.getfield 129, 3) := by decide +kernel
theorem tz_134_53 : tw_E sc d 134 53 [x0, x1, x2, x3, x4] (.ref a :: st) g mi mr Q = (tw_kd g a = 10 ∧ tw_E sc d 134 56 [x0, x1, x2, x3, x4] (.int (mi a 38) :: st) g mi mr Q) := tw_x_geti td_134_53 to_134 tf_10_129 (trf_10_38)
theorem td_134_56 : decode (tw_cd 134) 56 = .ok (.iload_n 1, 1) := by decide +kernel
theorem tz_134_56 : tw_E sc d 134 56 [x0, some (.int v), x2, x3, x4] st g mi mr Q = tw_E sc d 134 57 [x0, some (.int v), x2, x3, x4] (.int v :: st) g mi mr Q := tw_x_iload_n td_134_56 rfl
theorem td_134_57 : decode (tw_cd 134) 57 = .ok (.iconst 3, 1) := by decide +kernel
theorem tz_134_57 : tw_E sc d 134 57 [x0, x1, x2, x3, x4] st g mi mr Q = tw_E sc d 134 58 [x0, x1, x2, x3, x4] (.int 3 :: st) g mi mr Q := tw_x_iconst td_134_57 (by decide)
theorem td_134_58 : decode (tw_cd 134) 58 = .ok (.if_icmp .ge 7, 3) := by decide +kernel
theorem tz_134_58 : tw_E sc d 134 58 [x0, x1, x2, x3, x4] (.int w :: .int v :: st) g mi mr Q = if w ≤ v then tw_E sc d 134 65 [x0, x1, x2, x3, x4] st g mi mr Q else tw_E sc d 134 61 [x0, x1, x2, x3, x4] st g mi mr Q := tw_x_ic_ge td_134_58 (by decide)
theorem td_134_61 : decode (tw_cd 134) 61 = .ok (.iconst 1, 1) := by decide +kernel
theorem tz_134_61 : tw_E sc d 134 61 [x0, x1, x2, x3, x4] st g mi mr Q = tw_E sc d 134 62 [x0, x1, x2, x3, x4] (.int 1 :: st) g mi mr Q := tw_x_iconst td_134_61 (by decide)
theorem td_134_62 : decode (tw_cd 134) 62 = .ok (.goto 4, 3) := by decide +kernel
theorem tz_134_62 : tw_E sc d 134 62 [x0, x1, x2, x3, x4] st g mi mr Q = tw_E sc d 134 66 [x0, x1, x2, x3, x4] st g mi mr Q := tw_x_goto td_134_62 (by decide)
theorem td_134_65 : decode (tw_cd 134) 65 = .ok (.iconst 0, 1) := by decide +kernel
theorem tz_134_65 : tw_E sc d 134 65 [x0, x1, x2, x3, x4] st g mi mr Q = tw_E sc d 134 66 [x0, x1, x2, x3, x4] (.int 0 :: st) g mi mr Q := tw_x_iconst td_134_65 (by decide)
theorem td_134_66 : decode (tw_cd 134) 66 = .ok (.iadd, 1) := by decide +kernel
theorem tz_134_66 : tw_E sc d 134 66 [x0, x1, x2, x3, x4] (.int w :: .int v :: st) g mi mr Q = tw_E sc d 134 67 [x0, x1, x2, x3, x4] (.int (v + w) :: st) g mi mr Q := tw_x_iadd td_134_66
theorem td_134_67 : decode (tw_cd 134) 67 = .ok (.putfield 129, 3) := by decide +kernel
theorem tz_134_67 : tw_E sc d 134 67 [x0, x1, x2, x3, x4] (.int v :: .ref a :: st) g mi mr Q = (tw_kd g a = 10 ∧ tw_E sc d 134 70 [x0, x1, x2, x3, x4] st g (tw_st mi a (tw_st (mi a) 38 v)) mr Q) := tw_x_puti td_134_67 to_134 tf_10_129 rfl rfl
theorem td_134_70 : decode (tw_cd 134) 70 = .ok (.return_, 1) := by decide +kernel
theorem tz_134_70 : tw_E sc d 134 70 [x0, x1, x2, x3, x4] [] g mi mr Q = Q none g mi mr := tw_x_vret td_134_70 tr_134
end tz_134
-- 135: Mo_isTop
section tz_135
variable {sc : Nat × (Nat → Int32)} {d : Nat} {x0 x1 : Option Value} {st : List Value} {g : tw_G} {mi : tw_I} {mr : tw_Q} {Q : Option Value → tw_G → tw_I → tw_Q → Prop} {v w u : Int32} {a b : Nat} {j h : Int64} {s1 s2 s3 s4 : Value}
theorem td_135_0 : decode (tw_cd 135) 0 = .ok (.aload_n 0, 1) := by decide +kernel
theorem tz_135_0 : tw_E sc d 135 0 [some (.ref a), x1] st g mi mr Q = tw_E sc d 135 1 [some (.ref a), x1] (.ref a :: st) g mi mr Q := tw_x_aload_n td_135_0 rfl
theorem td_135_1 : decode (tw_cd 135) 1 = .ok (.getfield 126, 3) := by decide +kernel
theorem tz_135_1 : tw_E sc d 135 1 [x0, x1] (.ref a :: st) g mi mr Q = (tw_kd g a = 10 ∧ tw_E sc d 135 4 [x0, x1] (.int (mi a 33) :: st) g mi mr Q) := tw_x_geti td_135_1 to_135 tf_10_126 (trf_10_33)
theorem td_135_4 : decode (tw_cd 135) 4 = .ok (.ifCond .le 22, 3) := by decide +kernel
theorem tz_135_4 : tw_E sc d 135 4 [x0, x1] (.int v :: st) g mi mr Q = if v ≤ 0 then tw_E sc d 135 26 [x0, x1] st g mi mr Q else tw_E sc d 135 7 [x0, x1] st g mi mr Q := tw_x_if_le td_135_4 (by decide)
theorem td_135_7 : decode (tw_cd 135) 7 = .ok (.aload_n 0, 1) := by decide +kernel
theorem tz_135_7 : tw_E sc d 135 7 [some (.ref a), x1] st g mi mr Q = tw_E sc d 135 8 [some (.ref a), x1] (.ref a :: st) g mi mr Q := tw_x_aload_n td_135_7 rfl
theorem td_135_8 : decode (tw_cd 135) 8 = .ok (.getfield 71, 3) := by decide +kernel
theorem tz_135_8 : tw_E sc d 135 8 [x0, x1] (.ref a :: st) g mi mr Q = (tw_kd g a = 10 ∧ tw_E sc d 135 11 [x0, x1] (va_rf (mr a 34) :: st) g mi mr Q) := tw_x_getr td_135_8 to_135 tf_10_71 (trf_10_34)
theorem td_135_11 : decode (tw_cd 135) 11 = .ok (.aload_n 0, 1) := by decide +kernel
theorem tz_135_11 : tw_E sc d 135 11 [some (.ref a), x1] st g mi mr Q = tw_E sc d 135 12 [some (.ref a), x1] (.ref a :: st) g mi mr Q := tw_x_aload_n td_135_11 rfl
theorem td_135_12 : decode (tw_cd 135) 12 = .ok (.getfield 126, 3) := by decide +kernel
theorem tz_135_12 : tw_E sc d 135 12 [x0, x1] (.ref a :: st) g mi mr Q = (tw_kd g a = 10 ∧ tw_E sc d 135 15 [x0, x1] (.int (mi a 33) :: st) g mi mr Q) := tw_x_geti td_135_12 to_135 tf_10_126 (trf_10_33)
theorem td_135_15 : decode (tw_cd 135) 15 = .ok (.iconst 1, 1) := by decide +kernel
theorem tz_135_15 : tw_E sc d 135 15 [x0, x1] st g mi mr Q = tw_E sc d 135 16 [x0, x1] (.int 1 :: st) g mi mr Q := tw_x_iconst td_135_15 (by decide)
theorem td_135_16 : decode (tw_cd 135) 16 = .ok (.isub, 1) := by decide +kernel
theorem tz_135_16 : tw_E sc d 135 16 [x0, x1] (.int w :: .int v :: st) g mi mr Q = tw_E sc d 135 17 [x0, x1] (.int (v - w) :: st) g mi mr Q := tw_x_isub td_135_16
theorem td_135_17 : decode (tw_cd 135) 17 = .ok (.iaload, 1) := by decide +kernel
theorem tz_135_17 : tw_E sc d 135 17 [x0, x1] (.int v :: .ref a :: st) g mi mr Q = ((tw_kd g a = 20 ∧ vp_in v (tw_ln g a)) ∧ tw_E sc d 135 18 [x0, x1] (.int (mi a v.toNatClampNeg) :: st) g mi mr Q) := tw_x_iald td_135_17
theorem td_135_18 : decode (tw_cd 135) 18 = .ok (.iload_n 1, 1) := by decide +kernel
theorem tz_135_18 : tw_E sc d 135 18 [x0, some (.int v)] st g mi mr Q = tw_E sc d 135 19 [x0, some (.int v)] (.int v :: st) g mi mr Q := tw_x_iload_n td_135_18 rfl
theorem td_135_19 : decode (tw_cd 135) 19 = .ok (.if_icmp .ne 7, 3) := by decide +kernel
theorem tz_135_19 : tw_E sc d 135 19 [x0, x1] (.int w :: .int v :: st) g mi mr Q = if ¬ v = w then tw_E sc d 135 26 [x0, x1] st g mi mr Q else tw_E sc d 135 22 [x0, x1] st g mi mr Q := tw_x_ic_ne td_135_19 (by decide)
theorem td_135_22 : decode (tw_cd 135) 22 = .ok (.iconst 1, 1) := by decide +kernel
theorem tz_135_22 : tw_E sc d 135 22 [x0, x1] st g mi mr Q = tw_E sc d 135 23 [x0, x1] (.int 1 :: st) g mi mr Q := tw_x_iconst td_135_22 (by decide)
theorem td_135_23 : decode (tw_cd 135) 23 = .ok (.goto 4, 3) := by decide +kernel
theorem tz_135_23 : tw_E sc d 135 23 [x0, x1] st g mi mr Q = tw_E sc d 135 27 [x0, x1] st g mi mr Q := tw_x_goto td_135_23 (by decide)
theorem td_135_26 : decode (tw_cd 135) 26 = .ok (.iconst 0, 1) := by decide +kernel
theorem tz_135_26 : tw_E sc d 135 26 [x0, x1] st g mi mr Q = tw_E sc d 135 27 [x0, x1] (.int 0 :: st) g mi mr Q := tw_x_iconst td_135_26 (by decide)
theorem td_135_27 : decode (tw_cd 135) 27 = .ok (.ireturn, 1) := by decide +kernel
theorem tz_135_27 : tw_E sc d 135 27 [x0, x1] ([.int v]) g mi mr Q = ((v = 0 ∨ v = 1) ∧ Q (some (.int v)) g mi mr) := tw_x_zret td_135_27 tr_135
end tz_135
-- 136: Mo_wrongHere
section tz_136
variable {sc : Nat × (Nat → Int32)} {d : Nat} {x0 : Option Value} {st : List Value} {g : tw_G} {mi : tw_I} {mr : tw_Q} {Q : Option Value → tw_G → tw_I → tw_Q → Prop} {v w u : Int32} {a b : Nat} {j h : Int64} {s1 s2 s3 s4 : Value}
theorem td_136_0 : decode (tw_cd 136) 0 = .ok (.aload_n 0, 1) := by decide +kernel
theorem tz_136_0 : tw_E sc d 136 0 [some (.ref a)] st g mi mr Q = tw_E sc d 136 1 [some (.ref a)] (.ref a :: st) g mi mr Q := tw_x_aload_n td_136_0 rfl
theorem td_136_1 : decode (tw_cd 136) 1 = .ok (.aload_n 0, 1) := by decide +kernel
theorem tz_136_1 : tw_E sc d 136 1 [some (.ref a)] st g mi mr Q = tw_E sc d 136 2 [some (.ref a)] (.ref a :: st) g mi mr Q := tw_x_aload_n td_136_1 rfl
theorem td_136_2 : decode (tw_cd 136) 2 = .ok (.getfield 132, 3) := by decide +kernel
theorem tz_136_2 : tw_E sc d 136 2 [x0] (.ref a :: st) g mi mr Q = (tw_kd g a = 10 ∧ tw_E sc d 136 5 [x0] (.int (mi a 39) :: st) g mi mr Q) := tw_x_geti td_136_2 to_136 tf_10_132 (trf_10_39)
theorem td_136_5 : decode (tw_cd 136) 5 = .ok (.bipush (-9), 2) := by decide +kernel
theorem tz_136_5 : tw_E sc d 136 5 [x0] st g mi mr Q = tw_E sc d 136 7 [x0] (.int (-9) :: st) g mi mr Q := tw_x_bipush td_136_5 (by decide)
theorem td_136_7 : decode (tw_cd 136) 7 = .ok (.if_icmp .ne 10, 3) := by decide +kernel
theorem tz_136_7 : tw_E sc d 136 7 [x0] (.int w :: .int v :: st) g mi mr Q = if ¬ v = w then tw_E sc d 136 17 [x0] st g mi mr Q else tw_E sc d 136 10 [x0] st g mi mr Q := tw_x_ic_ne td_136_7 (by decide)
theorem td_136_10 : decode (tw_cd 136) 10 = .ok (.aload_n 0, 1) := by decide +kernel
theorem tz_136_10 : tw_E sc d 136 10 [some (.ref a)] st g mi mr Q = tw_E sc d 136 11 [some (.ref a)] (.ref a :: st) g mi mr Q := tw_x_aload_n td_136_10 rfl
theorem td_136_11 : decode (tw_cd 136) 11 = .ok (.getfield 103, 3) := by decide +kernel
theorem tz_136_11 : tw_E sc d 136 11 [x0] (.ref a :: st) g mi mr Q = (tw_kd g a = 10 ∧ tw_E sc d 136 14 [x0] (.int (mi a 31) :: st) g mi mr Q) := tw_x_geti td_136_11 to_136 tf_10_103 (trf_10_31)
theorem td_136_14 : decode (tw_cd 136) 14 = .ok (.goto 7, 3) := by decide +kernel
theorem tz_136_14 : tw_E sc d 136 14 [x0] st g mi mr Q = tw_E sc d 136 21 [x0] st g mi mr Q := tw_x_goto td_136_14 (by decide)
theorem td_136_17 : decode (tw_cd 136) 17 = .ok (.aload_n 0, 1) := by decide +kernel
theorem tz_136_17 : tw_E sc d 136 17 [some (.ref a)] st g mi mr Q = tw_E sc d 136 18 [some (.ref a)] (.ref a :: st) g mi mr Q := tw_x_aload_n td_136_17 rfl
theorem td_136_18 : decode (tw_cd 136) 18 = .ok (.getfield 132, 3) := by decide +kernel
theorem tz_136_18 : tw_E sc d 136 18 [x0] (.ref a :: st) g mi mr Q = (tw_kd g a = 10 ∧ tw_E sc d 136 21 [x0] (.int (mi a 39) :: st) g mi mr Q) := tw_x_geti td_136_18 to_136 tf_10_132 (trf_10_39)
theorem td_136_21 : decode (tw_cd 136) 21 = .ok (.putfield 132, 3) := by decide +kernel
theorem tz_136_21 : tw_E sc d 136 21 [x0] (.int v :: .ref a :: st) g mi mr Q = (tw_kd g a = 10 ∧ tw_E sc d 136 24 [x0] st g (tw_st mi a (tw_st (mi a) 39 v)) mr Q) := tw_x_puti td_136_21 to_136 tf_10_132 rfl rfl
theorem td_136_24 : decode (tw_cd 136) 24 = .ok (.return_, 1) := by decide +kernel
theorem tz_136_24 : tw_E sc d 136 24 [x0] [] g mi mr Q = Q none g mi mr := tw_x_vret td_136_24 tr_136
end tz_136
-- 137: Mo_oneNode
section tz_137
variable {sc : Nat × (Nat → Int32)} {d : Nat} {x0 x1 x2 : Option Value} {st : List Value} {g : tw_G} {mi : tw_I} {mr : tw_Q} {Q : Option Value → tw_G → tw_I → tw_Q → Prop} {v w u : Int32} {a b : Nat} {j h : Int64} {s1 s2 s3 s4 : Value}
theorem td_137_0 : decode (tw_cd 137) 0 = .ok (.aload_n 0, 1) := by decide +kernel
theorem tz_137_0 : tw_E sc d 137 0 [some (.ref a), x1, x2] st g mi mr Q = tw_E sc d 137 1 [some (.ref a), x1, x2] (.ref a :: st) g mi mr Q := tw_x_aload_n td_137_0 rfl
theorem td_137_1 : decode (tw_cd 137) 1 = .ok (.getfield 132, 3) := by decide +kernel
theorem tz_137_1 : tw_E sc d 137 1 [x0, x1, x2] (.ref a :: st) g mi mr Q = (tw_kd g a = 10 ∧ tw_E sc d 137 4 [x0, x1, x2] (.int (mi a 39) :: st) g mi mr Q) := tw_x_geti td_137_1 to_137 tf_10_132 (trf_10_39)
theorem td_137_4 : decode (tw_cd 137) 4 = .ok (.bipush (-9), 2) := by decide +kernel
theorem tz_137_4 : tw_E sc d 137 4 [x0, x1, x2] st g mi mr Q = tw_E sc d 137 6 [x0, x1, x2] (.int (-9) :: st) g mi mr Q := tw_x_bipush td_137_4 (by decide)
theorem td_137_6 : decode (tw_cd 137) 6 = .ok (.if_icmp .ne 141, 3) := by decide +kernel
theorem tz_137_6 : tw_E sc d 137 6 [x0, x1, x2] (.int w :: .int v :: st) g mi mr Q = if ¬ v = w then tw_E sc d 137 147 [x0, x1, x2] st g mi mr Q else tw_E sc d 137 9 [x0, x1, x2] st g mi mr Q := tw_x_ic_ne td_137_6 (by decide)
theorem td_137_9 : decode (tw_cd 137) 9 = .ok (.aload_n 0, 1) := by decide +kernel
theorem tz_137_9 : tw_E sc d 137 9 [some (.ref a), x1, x2] st g mi mr Q = tw_E sc d 137 10 [some (.ref a), x1, x2] (.ref a :: st) g mi mr Q := tw_x_aload_n td_137_9 rfl
theorem td_137_10 : decode (tw_cd 137) 10 = .ok (.getfield 109, 3) := by decide +kernel
theorem tz_137_10 : tw_E sc d 137 10 [x0, x1, x2] (.ref a :: st) g mi mr Q = (tw_kd g a = 10 ∧ tw_E sc d 137 13 [x0, x1, x2] (.int (mi a 30) :: st) g mi mr Q) := tw_x_geti td_137_10 to_137 tf_10_109 (trf_10_30)
theorem td_137_13 : decode (tw_cd 137) 13 = .ok (.iconst 2, 1) := by decide +kernel
theorem tz_137_13 : tw_E sc d 137 13 [x0, x1, x2] st g mi mr Q = tw_E sc d 137 14 [x0, x1, x2] (.int 2 :: st) g mi mr Q := tw_x_iconst td_137_13 (by decide)
theorem td_137_14 : decode (tw_cd 137) 14 = .ok (.if_icmp .eq 133, 3) := by decide +kernel
theorem tz_137_14 : tw_E sc d 137 14 [x0, x1, x2] (.int w :: .int v :: st) g mi mr Q = if v = w then tw_E sc d 137 147 [x0, x1, x2] st g mi mr Q else tw_E sc d 137 17 [x0, x1, x2] st g mi mr Q := tw_x_ic_eq td_137_14 (by decide)
theorem td_137_17 : decode (tw_cd 137) 17 = .ok (.aload_n 0, 1) := by decide +kernel
theorem tz_137_17 : tw_E sc d 137 17 [some (.ref a), x1, x2] st g mi mr Q = tw_E sc d 137 18 [some (.ref a), x1, x2] (.ref a :: st) g mi mr Q := tw_x_aload_n td_137_17 rfl
theorem td_137_18 : decode (tw_cd 137) 18 = .ok (.getfield 109, 3) := by decide +kernel
theorem tz_137_18 : tw_E sc d 137 18 [x0, x1, x2] (.ref a :: st) g mi mr Q = (tw_kd g a = 10 ∧ tw_E sc d 137 21 [x0, x1, x2] (.int (mi a 30) :: st) g mi mr Q) := tw_x_geti td_137_18 to_137 tf_10_109 (trf_10_30)
theorem td_137_21 : decode (tw_cd 137) 21 = .ok (.iconst 1, 1) := by decide +kernel
theorem tz_137_21 : tw_E sc d 137 21 [x0, x1, x2] st g mi mr Q = tw_E sc d 137 22 [x0, x1, x2] (.int 1 :: st) g mi mr Q := tw_x_iconst td_137_21 (by decide)
theorem td_137_22 : decode (tw_cd 137) 22 = .ok (.if_icmp .eq 21, 3) := by decide +kernel
theorem tz_137_22 : tw_E sc d 137 22 [x0, x1, x2] (.int w :: .int v :: st) g mi mr Q = if v = w then tw_E sc d 137 43 [x0, x1, x2] st g mi mr Q else tw_E sc d 137 25 [x0, x1, x2] st g mi mr Q := tw_x_ic_eq td_137_22 (by decide)
theorem td_137_25 : decode (tw_cd 137) 25 = .ok (.aload_n 0, 1) := by decide +kernel
theorem tz_137_25 : tw_E sc d 137 25 [some (.ref a), x1, x2] st g mi mr Q = tw_E sc d 137 26 [some (.ref a), x1, x2] (.ref a :: st) g mi mr Q := tw_x_aload_n td_137_25 rfl
theorem td_137_26 : decode (tw_cd 137) 26 = .ok (.bipush 33, 2) := by decide +kernel
theorem tz_137_26 : tw_E sc d 137 26 [x0, x1, x2] st g mi mr Q = tw_E sc d 137 28 [x0, x1, x2] (.int 33 :: st) g mi mr Q := tw_x_bipush td_137_26 (by decide)
theorem td_137_28 : decode (tw_cd 137) 28 = .ok (.invokevirtual 135, 3) := by decide +kernel
theorem tz_137_28 {a0 : Int32} : tw_E sc (d + 1) 137 28 [x0, x1, x2] ([.int a0, .ref a]) g mi mr Q = (tw_kd g a = 10 ∧ tw_E sc d 132 0 [some (.ref a), some (.int a0)] [] g mi mr (tw_K sc (d + 1) 137 31 [x0, x1, x2] [] Q)) := tw_x_cv (as := [.int a0]) (r := []) td_137_28 to_137 tc_10_135 to_132 rfl rfl rfl rfl
theorem td_137_31 : decode (tw_cd 137) 31 = .ok (.ifCond .ne 12, 3) := by decide +kernel
theorem tz_137_31 : tw_E sc d 137 31 [x0, x1, x2] (.int v :: st) g mi mr Q = if ¬ v = 0 then tw_E sc d 137 43 [x0, x1, x2] st g mi mr Q else tw_E sc d 137 34 [x0, x1, x2] st g mi mr Q := tw_x_if_ne td_137_31 (by decide)
theorem td_137_34 : decode (tw_cd 137) 34 = .ok (.aload_n 0, 1) := by decide +kernel
theorem tz_137_34 : tw_E sc d 137 34 [some (.ref a), x1, x2] st g mi mr Q = tw_E sc d 137 35 [some (.ref a), x1, x2] (.ref a :: st) g mi mr Q := tw_x_aload_n td_137_34 rfl
theorem td_137_35 : decode (tw_cd 137) 35 = .ok (.bipush 40, 2) := by decide +kernel
theorem tz_137_35 : tw_E sc d 137 35 [x0, x1, x2] st g mi mr Q = tw_E sc d 137 37 [x0, x1, x2] (.int 40 :: st) g mi mr Q := tw_x_bipush td_137_35 (by decide)
theorem td_137_37 : decode (tw_cd 137) 37 = .ok (.invokevirtual 135, 3) := by decide +kernel
theorem tz_137_37 {a0 : Int32} : tw_E sc (d + 1) 137 37 [x0, x1, x2] ([.int a0, .ref a]) g mi mr Q = (tw_kd g a = 10 ∧ tw_E sc d 132 0 [some (.ref a), some (.int a0)] [] g mi mr (tw_K sc (d + 1) 137 40 [x0, x1, x2] [] Q)) := tw_x_cv (as := [.int a0]) (r := []) td_137_37 to_137 tc_10_135 to_132 rfl rfl rfl rfl
theorem td_137_40 : decode (tw_cd 137) 40 = .ok (.ifCond .eq 7, 3) := by decide +kernel
theorem tz_137_40 : tw_E sc d 137 40 [x0, x1, x2] (.int v :: st) g mi mr Q = if v = 0 then tw_E sc d 137 47 [x0, x1, x2] st g mi mr Q else tw_E sc d 137 43 [x0, x1, x2] st g mi mr Q := tw_x_if_eq td_137_40 (by decide)
theorem td_137_43 : decode (tw_cd 137) 43 = .ok (.iconst 1, 1) := by decide +kernel
theorem tz_137_43 : tw_E sc d 137 43 [x0, x1, x2] st g mi mr Q = tw_E sc d 137 44 [x0, x1, x2] (.int 1 :: st) g mi mr Q := tw_x_iconst td_137_43 (by decide)
theorem td_137_44 : decode (tw_cd 137) 44 = .ok (.goto 4, 3) := by decide +kernel
theorem tz_137_44 : tw_E sc d 137 44 [x0, x1, x2] st g mi mr Q = tw_E sc d 137 48 [x0, x1, x2] st g mi mr Q := tw_x_goto td_137_44 (by decide)
theorem td_137_47 : decode (tw_cd 137) 47 = .ok (.iconst 0, 1) := by decide +kernel
theorem tz_137_47 : tw_E sc d 137 47 [x0, x1, x2] st g mi mr Q = tw_E sc d 137 48 [x0, x1, x2] (.int 0 :: st) g mi mr Q := tw_x_iconst td_137_47 (by decide)
theorem td_137_48 : decode (tw_cd 137) 48 = .ok (.istore_n 1, 1) := by decide +kernel
theorem tz_137_48 : tw_E sc d 137 48 [x0, x1, x2] (.int v :: st) g mi mr Q = tw_E sc d 137 49 [x0, some (.int v), x2] st g mi mr Q := tw_x_istore_n td_137_48 tp_137 rfl
theorem td_137_49 : decode (tw_cd 137) 49 = .ok (.iload_n 1, 1) := by decide +kernel
theorem tz_137_49 : tw_E sc d 137 49 [x0, some (.int v), x2] st g mi mr Q = tw_E sc d 137 50 [x0, some (.int v), x2] (.int v :: st) g mi mr Q := tw_x_iload_n td_137_49 rfl
theorem td_137_50 : decode (tw_cd 137) 50 = .ok (.ifCond .eq 12, 3) := by decide +kernel
theorem tz_137_50 : tw_E sc d 137 50 [x0, x1, x2] (.int v :: st) g mi mr Q = if v = 0 then tw_E sc d 137 62 [x0, x1, x2] st g mi mr Q else tw_E sc d 137 53 [x0, x1, x2] st g mi mr Q := tw_x_if_eq td_137_50 (by decide)
theorem td_137_53 : decode (tw_cd 137) 53 = .ok (.aload_n 0, 1) := by decide +kernel
theorem tz_137_53 : tw_E sc d 137 53 [some (.ref a), x1, x2] st g mi mr Q = tw_E sc d 137 54 [some (.ref a), x1, x2] (.ref a :: st) g mi mr Q := tw_x_aload_n td_137_53 rfl
theorem td_137_54 : decode (tw_cd 137) 54 = .ok (.getfield 129, 3) := by decide +kernel
theorem tz_137_54 : tw_E sc d 137 54 [x0, x1, x2] (.ref a :: st) g mi mr Q = (tw_kd g a = 10 ∧ tw_E sc d 137 57 [x0, x1, x2] (.int (mi a 38) :: st) g mi mr Q) := tw_x_geti td_137_54 to_137 tf_10_129 (trf_10_38)
theorem td_137_57 : decode (tw_cd 137) 57 = .ok (.bipush 10, 2) := by decide +kernel
theorem tz_137_57 : tw_E sc d 137 57 [x0, x1, x2] st g mi mr Q = tw_E sc d 137 59 [x0, x1, x2] (.int 10 :: st) g mi mr Q := tw_x_bipush td_137_57 (by decide)
theorem td_137_59 : decode (tw_cd 137) 59 = .ok (.if_icmp .ne 10, 3) := by decide +kernel
theorem tz_137_59 : tw_E sc d 137 59 [x0, x1, x2] (.int w :: .int v :: st) g mi mr Q = if ¬ v = w then tw_E sc d 137 69 [x0, x1, x2] st g mi mr Q else tw_E sc d 137 62 [x0, x1, x2] st g mi mr Q := tw_x_ic_ne td_137_59 (by decide)
theorem td_137_62 : decode (tw_cd 137) 62 = .ok (.aload_n 0, 1) := by decide +kernel
theorem tz_137_62 : tw_E sc d 137 62 [some (.ref a), x1, x2] st g mi mr Q = tw_E sc d 137 63 [some (.ref a), x1, x2] (.ref a :: st) g mi mr Q := tw_x_aload_n td_137_62 rfl
theorem td_137_63 : decode (tw_cd 137) 63 = .ok (.invokevirtual 138, 3) := by decide +kernel
theorem tz_137_63 : tw_E sc (d + 1) 137 63 [x0, x1, x2] ([.ref a]) g mi mr Q = (tw_kd g a = 10 ∧ tw_E sc d 136 0 [some (.ref a)] [] g mi mr (tw_K sc (d + 1) 137 66 [x0, x1, x2] [] Q)) := tw_x_cv (as := []) (r := []) td_137_63 to_137 tc_10_138 to_136 rfl rfl rfl rfl
theorem td_137_66 : decode (tw_cd 137) 66 = .ok (.goto 78, 3) := by decide +kernel
theorem tz_137_66 : tw_E sc d 137 66 [x0, x1, x2] st g mi mr Q = tw_E sc d 137 144 [x0, x1, x2] st g mi mr Q := tw_x_goto td_137_66 (by decide)
theorem td_137_69 : decode (tw_cd 137) 69 = .ok (.aload_n 0, 1) := by decide +kernel
theorem tz_137_69 : tw_E sc d 137 69 [some (.ref a), x1, x2] st g mi mr Q = tw_E sc d 137 70 [some (.ref a), x1, x2] (.ref a :: st) g mi mr Q := tw_x_aload_n td_137_69 rfl
theorem td_137_70 : decode (tw_cd 137) 70 = .ok (.getfield 109, 3) := by decide +kernel
theorem tz_137_70 : tw_E sc d 137 70 [x0, x1, x2] (.ref a :: st) g mi mr Q = (tw_kd g a = 10 ∧ tw_E sc d 137 73 [x0, x1, x2] (.int (mi a 30) :: st) g mi mr Q) := tw_x_geti td_137_70 to_137 tf_10_109 (trf_10_30)
theorem td_137_73 : decode (tw_cd 137) 73 = .ok (.iconst 1, 1) := by decide +kernel
theorem tz_137_73 : tw_E sc d 137 73 [x0, x1, x2] st g mi mr Q = tw_E sc d 137 74 [x0, x1, x2] (.int 1 :: st) g mi mr Q := tw_x_iconst td_137_73 (by decide)
theorem td_137_74 : decode (tw_cd 137) 74 = .ok (.if_icmp .ne 42, 3) := by decide +kernel
theorem tz_137_74 : tw_E sc d 137 74 [x0, x1, x2] (.int w :: .int v :: st) g mi mr Q = if ¬ v = w then tw_E sc d 137 116 [x0, x1, x2] st g mi mr Q else tw_E sc d 137 77 [x0, x1, x2] st g mi mr Q := tw_x_ic_ne td_137_74 (by decide)
theorem td_137_77 : decode (tw_cd 137) 77 = .ok (.aload_n 0, 1) := by decide +kernel
theorem tz_137_77 : tw_E sc d 137 77 [some (.ref a), x1, x2] st g mi mr Q = tw_E sc d 137 78 [some (.ref a), x1, x2] (.ref a :: st) g mi mr Q := tw_x_aload_n td_137_77 rfl
theorem td_137_78 : decode (tw_cd 137) 78 = .ok (.getfield 106, 3) := by decide +kernel
theorem tz_137_78 : tw_E sc d 137 78 [x0, x1, x2] (.ref a :: st) g mi mr Q = (tw_kd g a = 10 ∧ tw_E sc d 137 81 [x0, x1, x2] (.int (mi a 32) :: st) g mi mr Q) := tw_x_geti td_137_78 to_137 tf_10_106 (trf_10_32)
theorem td_137_81 : decode (tw_cd 137) 81 = .ok (.istore_n 2, 1) := by decide +kernel
theorem tz_137_81 : tw_E sc d 137 81 [x0, x1, x2] (.int v :: st) g mi mr Q = tw_E sc d 137 82 [x0, x1, some (.int v)] st g mi mr Q := tw_x_istore_n td_137_81 tp_137 rfl
theorem td_137_82 : decode (tw_cd 137) 82 = .ok (.aload_n 0, 1) := by decide +kernel
theorem tz_137_82 : tw_E sc d 137 82 [some (.ref a), x1, x2] st g mi mr Q = tw_E sc d 137 83 [some (.ref a), x1, x2] (.ref a :: st) g mi mr Q := tw_x_aload_n td_137_82 rfl
theorem td_137_83 : decode (tw_cd 137) 83 = .ok (.invokevirtual 141, 3) := by decide +kernel
theorem tz_137_83 : tw_E sc (d + 1) 137 83 [x0, x1, x2] ([.ref a]) g mi mr Q = (tw_kd g a = 10 ∧ tw_E sc d 131 0 [some (.ref a)] [] g mi mr (tw_K sc (d + 1) 137 86 [x0, x1, x2] [] Q)) := tw_x_cv (as := []) (r := []) td_137_83 to_137 tc_10_141 to_131 rfl rfl rfl rfl
theorem td_137_86 : decode (tw_cd 137) 86 = .ok (.aload_n 0, 1) := by decide +kernel
theorem tz_137_86 : tw_E sc d 137 86 [some (.ref a), x1, x2] st g mi mr Q = tw_E sc d 137 87 [some (.ref a), x1, x2] (.ref a :: st) g mi mr Q := tw_x_aload_n td_137_86 rfl
theorem td_137_87 : decode (tw_cd 137) 87 = .ok (.bipush 42, 2) := by decide +kernel
theorem tz_137_87 : tw_E sc d 137 87 [x0, x1, x2] st g mi mr Q = tw_E sc d 137 89 [x0, x1, x2] (.int 42 :: st) g mi mr Q := tw_x_bipush td_137_87 (by decide)
theorem td_137_89 : decode (tw_cd 137) 89 = .ok (.invokevirtual 135, 3) := by decide +kernel
theorem tz_137_89 {a0 : Int32} : tw_E sc (d + 1) 137 89 [x0, x1, x2] ([.int a0, .ref a]) g mi mr Q = (tw_kd g a = 10 ∧ tw_E sc d 132 0 [some (.ref a), some (.int a0)] [] g mi mr (tw_K sc (d + 1) 137 92 [x0, x1, x2] [] Q)) := tw_x_cv (as := [.int a0]) (r := []) td_137_89 to_137 tc_10_135 to_132 rfl rfl rfl rfl
theorem td_137_92 : decode (tw_cd 137) 92 = .ok (.ifCond .ne 7, 3) := by decide +kernel
theorem tz_137_92 : tw_E sc d 137 92 [x0, x1, x2] (.int v :: st) g mi mr Q = if ¬ v = 0 then tw_E sc d 137 99 [x0, x1, x2] st g mi mr Q else tw_E sc d 137 95 [x0, x1, x2] st g mi mr Q := tw_x_if_ne td_137_92 (by decide)
theorem td_137_95 : decode (tw_cd 137) 95 = .ok (.aload_n 0, 1) := by decide +kernel
theorem tz_137_95 : tw_E sc d 137 95 [some (.ref a), x1, x2] st g mi mr Q = tw_E sc d 137 96 [some (.ref a), x1, x2] (.ref a :: st) g mi mr Q := tw_x_aload_n td_137_95 rfl
theorem td_137_96 : decode (tw_cd 137) 96 = .ok (.invokevirtual 138, 3) := by decide +kernel
theorem tz_137_96 : tw_E sc (d + 1) 137 96 [x0, x1, x2] ([.ref a]) g mi mr Q = (tw_kd g a = 10 ∧ tw_E sc d 136 0 [some (.ref a)] [] g mi mr (tw_K sc (d + 1) 137 99 [x0, x1, x2] [] Q)) := tw_x_cv (as := []) (r := []) td_137_96 to_137 tc_10_138 to_136 rfl rfl rfl rfl
theorem td_137_99 : decode (tw_cd 137) 99 = .ok (.aload_n 0, 1) := by decide +kernel
theorem tz_137_99 : tw_E sc d 137 99 [some (.ref a), x1, x2] st g mi mr Q = tw_E sc d 137 100 [some (.ref a), x1, x2] (.ref a :: st) g mi mr Q := tw_x_aload_n td_137_99 rfl
theorem td_137_100 : decode (tw_cd 137) 100 = .ok (.iconst 2, 1) := by decide +kernel
theorem tz_137_100 : tw_E sc d 137 100 [x0, x1, x2] st g mi mr Q = tw_E sc d 137 101 [x0, x1, x2] (.int 2 :: st) g mi mr Q := tw_x_iconst td_137_100 (by decide)
theorem td_137_101 : decode (tw_cd 137) 101 = .ok (.bipush (-9), 2) := by decide +kernel
theorem tz_137_101 : tw_E sc d 137 101 [x0, x1, x2] st g mi mr Q = tw_E sc d 137 103 [x0, x1, x2] (.int (-9) :: st) g mi mr Q := tw_x_bipush td_137_101 (by decide)
theorem td_137_103 : decode (tw_cd 137) 103 = .ok (.iload_n 2, 1) := by decide +kernel
theorem tz_137_103 : tw_E sc d 137 103 [x0, x1, some (.int v)] st g mi mr Q = tw_E sc d 137 104 [x0, x1, some (.int v)] (.int v :: st) g mi mr Q := tw_x_iload_n td_137_103 rfl
theorem td_137_104 : decode (tw_cd 137) 104 = .ok (.bipush (-9), 2) := by decide +kernel
theorem tz_137_104 : tw_E sc d 137 104 [x0, x1, x2] st g mi mr Q = tw_E sc d 137 106 [x0, x1, x2] (.int (-9) :: st) g mi mr Q := tw_x_bipush td_137_104 (by decide)
theorem td_137_106 : decode (tw_cd 137) 106 = .ok (.invokevirtual 144, 3) := by decide +kernel
theorem tz_137_106 {a0 : Int32} {a1 : Int32} {a2 : Int32} {a3 : Int32} : tw_E sc (d + 1) 137 106 [x0, x1, x2] ([.int a3, .int a2, .int a1, .int a0, .ref a]) g mi mr Q = (tw_kd g a = 10 ∧ tw_E sc d 134 0 [some (.ref a), some (.int a0), some (.int a1), some (.int a2), some (.int a3)] [] g mi mr (tw_K sc (d + 1) 137 109 [x0, x1, x2] [] Q)) := tw_x_cv (as := [.int a0, .int a1, .int a2, .int a3]) (r := []) td_137_106 to_137 tc_10_144 to_134 rfl rfl rfl rfl
theorem td_137_109 : decode (tw_cd 137) 109 = .ok (.aload_n 0, 1) := by decide +kernel
theorem tz_137_109 : tw_E sc d 137 109 [some (.ref a), x1, x2] st g mi mr Q = tw_E sc d 137 110 [some (.ref a), x1, x2] (.ref a :: st) g mi mr Q := tw_x_aload_n td_137_109 rfl
theorem td_137_110 : decode (tw_cd 137) 110 = .ok (.invokevirtual 141, 3) := by decide +kernel
theorem tz_137_110 : tw_E sc (d + 1) 137 110 [x0, x1, x2] ([.ref a]) g mi mr Q = (tw_kd g a = 10 ∧ tw_E sc d 131 0 [some (.ref a)] [] g mi mr (tw_K sc (d + 1) 137 113 [x0, x1, x2] [] Q)) := tw_x_cv (as := []) (r := []) td_137_110 to_137 tc_10_141 to_131 rfl rfl rfl rfl
theorem td_137_113 : decode (tw_cd 137) 113 = .ok (.goto 31, 3) := by decide +kernel
theorem tz_137_113 : tw_E sc d 137 113 [x0, x1, x2] st g mi mr Q = tw_E sc d 137 144 [x0, x1, x2] st g mi mr Q := tw_x_goto td_137_113 (by decide)
theorem td_137_116 : decode (tw_cd 137) 116 = .ok (.aload_n 0, 1) := by decide +kernel
theorem tz_137_116 : tw_E sc d 137 116 [some (.ref a), x1, x2] st g mi mr Q = tw_E sc d 137 117 [some (.ref a), x1, x2] (.ref a :: st) g mi mr Q := tw_x_aload_n td_137_116 rfl
theorem td_137_117 : decode (tw_cd 137) 117 = .ok (.aload_n 0, 1) := by decide +kernel
theorem tz_137_117 : tw_E sc d 137 117 [some (.ref a), x1, x2] st g mi mr Q = tw_E sc d 137 118 [some (.ref a), x1, x2] (.ref a :: st) g mi mr Q := tw_x_aload_n td_137_117 rfl
theorem td_137_118 : decode (tw_cd 137) 118 = .ok (.bipush 33, 2) := by decide +kernel
theorem tz_137_118 : tw_E sc d 137 118 [x0, x1, x2] st g mi mr Q = tw_E sc d 137 120 [x0, x1, x2] (.int 33 :: st) g mi mr Q := tw_x_bipush td_137_118 (by decide)
theorem td_137_120 : decode (tw_cd 137) 120 = .ok (.invokevirtual 135, 3) := by decide +kernel
theorem tz_137_120 {a0 : Int32} : tw_E sc (d + 1) 137 120 [x0, x1, x2] ([.int a0, .ref a, s1]) g mi mr Q = (tw_kd g a = 10 ∧ tw_E sc d 132 0 [some (.ref a), some (.int a0)] [] g mi mr (tw_K sc (d + 1) 137 123 [x0, x1, x2] [s1] Q)) := tw_x_cv (as := [.int a0]) (r := [s1]) td_137_120 to_137 tc_10_135 to_132 rfl rfl rfl rfl
theorem td_137_123 : decode (tw_cd 137) 123 = .ok (.ifCond .eq 7, 3) := by decide +kernel
theorem tz_137_123 : tw_E sc d 137 123 [x0, x1, x2] (.int v :: st) g mi mr Q = if v = 0 then tw_E sc d 137 130 [x0, x1, x2] st g mi mr Q else tw_E sc d 137 126 [x0, x1, x2] st g mi mr Q := tw_x_if_eq td_137_123 (by decide)
theorem td_137_126 : decode (tw_cd 137) 126 = .ok (.iconst 1, 1) := by decide +kernel
theorem tz_137_126 : tw_E sc d 137 126 [x0, x1, x2] st g mi mr Q = tw_E sc d 137 127 [x0, x1, x2] (.int 1 :: st) g mi mr Q := tw_x_iconst td_137_126 (by decide)
theorem td_137_127 : decode (tw_cd 137) 127 = .ok (.goto 4, 3) := by decide +kernel
theorem tz_137_127 : tw_E sc d 137 127 [x0, x1, x2] st g mi mr Q = tw_E sc d 137 131 [x0, x1, x2] st g mi mr Q := tw_x_goto td_137_127 (by decide)
theorem td_137_130 : decode (tw_cd 137) 130 = .ok (.iconst 0, 1) := by decide +kernel
theorem tz_137_130 : tw_E sc d 137 130 [x0, x1, x2] st g mi mr Q = tw_E sc d 137 131 [x0, x1, x2] (.int 0 :: st) g mi mr Q := tw_x_iconst td_137_130 (by decide)
theorem td_137_131 : decode (tw_cd 137) 131 = .ok (.bipush (-9), 2) := by decide +kernel
theorem tz_137_131 : tw_E sc d 137 131 [x0, x1, x2] st g mi mr Q = tw_E sc d 137 133 [x0, x1, x2] (.int (-9) :: st) g mi mr Q := tw_x_bipush td_137_131 (by decide)
theorem td_137_133 : decode (tw_cd 137) 133 = .ok (.bipush (-9), 2) := by decide +kernel
theorem tz_137_133 : tw_E sc d 137 133 [x0, x1, x2] st g mi mr Q = tw_E sc d 137 135 [x0, x1, x2] (.int (-9) :: st) g mi mr Q := tw_x_bipush td_137_133 (by decide)
theorem td_137_135 : decode (tw_cd 137) 135 = .ok (.bipush (-9), 2) := by decide +kernel
theorem tz_137_135 : tw_E sc d 137 135 [x0, x1, x2] st g mi mr Q = tw_E sc d 137 137 [x0, x1, x2] (.int (-9) :: st) g mi mr Q := tw_x_bipush td_137_135 (by decide)
theorem td_137_137 : decode (tw_cd 137) 137 = .ok (.invokevirtual 144, 3) := by decide +kernel
theorem tz_137_137 {a0 : Int32} {a1 : Int32} {a2 : Int32} {a3 : Int32} : tw_E sc (d + 1) 137 137 [x0, x1, x2] ([.int a3, .int a2, .int a1, .int a0, .ref a]) g mi mr Q = (tw_kd g a = 10 ∧ tw_E sc d 134 0 [some (.ref a), some (.int a0), some (.int a1), some (.int a2), some (.int a3)] [] g mi mr (tw_K sc (d + 1) 137 140 [x0, x1, x2] [] Q)) := tw_x_cv (as := [.int a0, .int a1, .int a2, .int a3]) (r := []) td_137_137 to_137 tc_10_144 to_134 rfl rfl rfl rfl
theorem td_137_140 : decode (tw_cd 137) 140 = .ok (.aload_n 0, 1) := by decide +kernel
theorem tz_137_140 : tw_E sc d 137 140 [some (.ref a), x1, x2] st g mi mr Q = tw_E sc d 137 141 [some (.ref a), x1, x2] (.ref a :: st) g mi mr Q := tw_x_aload_n td_137_140 rfl
theorem td_137_141 : decode (tw_cd 137) 141 = .ok (.invokevirtual 141, 3) := by decide +kernel
theorem tz_137_141 : tw_E sc (d + 1) 137 141 [x0, x1, x2] ([.ref a]) g mi mr Q = (tw_kd g a = 10 ∧ tw_E sc d 131 0 [some (.ref a)] [] g mi mr (tw_K sc (d + 1) 137 144 [x0, x1, x2] [] Q)) := tw_x_cv (as := []) (r := []) td_137_141 to_137 tc_10_141 to_131 rfl rfl rfl rfl
theorem td_137_144 : decode (tw_cd 137) 144 = .ok (.goto (-144), 3) := by decide +kernel
theorem tz_137_144 : tw_E sc d 137 144 [x0, x1, x2] st g mi mr Q = tw_E sc d 137 0 [x0, x1, x2] st g mi mr Q := tw_x_goto td_137_144 (by decide)
theorem td_137_147 : decode (tw_cd 137) 147 = .ok (.aload_n 0, 1) := by decide +kernel
theorem tz_137_147 : tw_E sc d 137 147 [some (.ref a), x1, x2] st g mi mr Q = tw_E sc d 137 148 [some (.ref a), x1, x2] (.ref a :: st) g mi mr Q := tw_x_aload_n td_137_147 rfl
theorem td_137_148 : decode (tw_cd 137) 148 = .ok (.getfield 132, 3) := by decide +kernel
theorem tz_137_148 : tw_E sc d 137 148 [x0, x1, x2] (.ref a :: st) g mi mr Q = (tw_kd g a = 10 ∧ tw_E sc d 137 151 [x0, x1, x2] (.int (mi a 39) :: st) g mi mr Q) := tw_x_geti td_137_148 to_137 tf_10_132 (trf_10_39)
theorem td_137_151 : decode (tw_cd 137) 151 = .ok (.bipush (-9), 2) := by decide +kernel
theorem tz_137_151 : tw_E sc d 137 151 [x0, x1, x2] st g mi mr Q = tw_E sc d 137 153 [x0, x1, x2] (.int (-9) :: st) g mi mr Q := tw_x_bipush td_137_151 (by decide)
theorem td_137_153 : decode (tw_cd 137) 153 = .ok (.if_icmp .eq 6, 3) := by decide +kernel
theorem tz_137_153 : tw_E sc d 137 153 [x0, x1, x2] (.int w :: .int v :: st) g mi mr Q = if v = w then tw_E sc d 137 159 [x0, x1, x2] st g mi mr Q else tw_E sc d 137 156 [x0, x1, x2] st g mi mr Q := tw_x_ic_eq td_137_153 (by decide)
theorem td_137_156 : decode (tw_cd 137) 156 = .ok (.bipush (-9), 2) := by decide +kernel
theorem tz_137_156 : tw_E sc d 137 156 [x0, x1, x2] st g mi mr Q = tw_E sc d 137 158 [x0, x1, x2] (.int (-9) :: st) g mi mr Q := tw_x_bipush td_137_156 (by decide)
theorem td_137_158 : decode (tw_cd 137) 158 = .ok (.ireturn, 1) := by decide +kernel
theorem tz_137_158 : tw_E sc d 137 158 [x0, x1, x2] ([.int v]) g mi mr Q = Q (some (.int v)) g mi mr := tw_x_iret td_137_158 tr_137
theorem td_137_159 : decode (tw_cd 137) 159 = .ok (.aload_n 0, 1) := by decide +kernel
theorem tz_137_159 : tw_E sc d 137 159 [some (.ref a), x1, x2] st g mi mr Q = tw_E sc d 137 160 [some (.ref a), x1, x2] (.ref a :: st) g mi mr Q := tw_x_aload_n td_137_159 rfl
theorem td_137_160 : decode (tw_cd 137) 160 = .ok (.getfield 106, 3) := by decide +kernel
theorem tz_137_160 : tw_E sc d 137 160 [x0, x1, x2] (.ref a :: st) g mi mr Q = (tw_kd g a = 10 ∧ tw_E sc d 137 163 [x0, x1, x2] (.int (mi a 32) :: st) g mi mr Q) := tw_x_geti td_137_160 to_137 tf_10_106 (trf_10_32)
theorem td_137_163 : decode (tw_cd 137) 163 = .ok (.istore_n 1, 1) := by decide +kernel
theorem tz_137_163 : tw_E sc d 137 163 [x0, x1, x2] (.int v :: st) g mi mr Q = tw_E sc d 137 164 [x0, some (.int v), x2] st g mi mr Q := tw_x_istore_n td_137_163 tp_137 rfl
theorem td_137_164 : decode (tw_cd 137) 164 = .ok (.aload_n 0, 1) := by decide +kernel
theorem tz_137_164 : tw_E sc d 137 164 [some (.ref a), x1, x2] st g mi mr Q = tw_E sc d 137 165 [some (.ref a), x1, x2] (.ref a :: st) g mi mr Q := tw_x_aload_n td_137_164 rfl
theorem td_137_165 : decode (tw_cd 137) 165 = .ok (.invokevirtual 141, 3) := by decide +kernel
theorem tz_137_165 : tw_E sc (d + 1) 137 165 [x0, x1, x2] ([.ref a]) g mi mr Q = (tw_kd g a = 10 ∧ tw_E sc d 131 0 [some (.ref a)] [] g mi mr (tw_K sc (d + 1) 137 168 [x0, x1, x2] [] Q)) := tw_x_cv (as := []) (r := []) td_137_165 to_137 tc_10_141 to_131 rfl rfl rfl rfl
theorem td_137_168 : decode (tw_cd 137) 168 = .ok (.aload_n 0, 1) := by decide +kernel
theorem tz_137_168 : tw_E sc d 137 168 [some (.ref a), x1, x2] st g mi mr Q = tw_E sc d 137 169 [some (.ref a), x1, x2] (.ref a :: st) g mi mr Q := tw_x_aload_n td_137_168 rfl
theorem td_137_169 : decode (tw_cd 137) 169 = .ok (.bipush 43, 2) := by decide +kernel
theorem tz_137_169 : tw_E sc d 137 169 [x0, x1, x2] st g mi mr Q = tw_E sc d 137 171 [x0, x1, x2] (.int 43 :: st) g mi mr Q := tw_x_bipush td_137_169 (by decide)
theorem td_137_171 : decode (tw_cd 137) 171 = .ok (.invokevirtual 135, 3) := by decide +kernel
theorem tz_137_171 {a0 : Int32} : tw_E sc (d + 1) 137 171 [x0, x1, x2] ([.int a0, .ref a]) g mi mr Q = (tw_kd g a = 10 ∧ tw_E sc d 132 0 [some (.ref a), some (.int a0)] [] g mi mr (tw_K sc (d + 1) 137 174 [x0, x1, x2] [] Q)) := tw_x_cv (as := [.int a0]) (r := []) td_137_171 to_137 tc_10_135 to_132 rfl rfl rfl rfl
theorem td_137_174 : decode (tw_cd 137) 174 = .ok (.ifCond .ne 21, 3) := by decide +kernel
theorem tz_137_174 : tw_E sc d 137 174 [x0, x1, x2] (.int v :: st) g mi mr Q = if ¬ v = 0 then tw_E sc d 137 195 [x0, x1, x2] st g mi mr Q else tw_E sc d 137 177 [x0, x1, x2] st g mi mr Q := tw_x_if_ne td_137_174 (by decide)
theorem td_137_177 : decode (tw_cd 137) 177 = .ok (.aload_n 0, 1) := by decide +kernel
theorem tz_137_177 : tw_E sc d 137 177 [some (.ref a), x1, x2] st g mi mr Q = tw_E sc d 137 178 [some (.ref a), x1, x2] (.ref a :: st) g mi mr Q := tw_x_aload_n td_137_177 rfl
theorem td_137_178 : decode (tw_cd 137) 178 = .ok (.bipush 45, 2) := by decide +kernel
theorem tz_137_178 : tw_E sc d 137 178 [x0, x1, x2] st g mi mr Q = tw_E sc d 137 180 [x0, x1, x2] (.int 45 :: st) g mi mr Q := tw_x_bipush td_137_178 (by decide)
theorem td_137_180 : decode (tw_cd 137) 180 = .ok (.invokevirtual 135, 3) := by decide +kernel
theorem tz_137_180 {a0 : Int32} : tw_E sc (d + 1) 137 180 [x0, x1, x2] ([.int a0, .ref a]) g mi mr Q = (tw_kd g a = 10 ∧ tw_E sc d 132 0 [some (.ref a), some (.int a0)] [] g mi mr (tw_K sc (d + 1) 137 183 [x0, x1, x2] [] Q)) := tw_x_cv (as := [.int a0]) (r := []) td_137_180 to_137 tc_10_135 to_132 rfl rfl rfl rfl
theorem td_137_183 : decode (tw_cd 137) 183 = .ok (.ifCond .ne 12, 3) := by decide +kernel
theorem tz_137_183 : tw_E sc d 137 183 [x0, x1, x2] (.int v :: st) g mi mr Q = if ¬ v = 0 then tw_E sc d 137 195 [x0, x1, x2] st g mi mr Q else tw_E sc d 137 186 [x0, x1, x2] st g mi mr Q := tw_x_if_ne td_137_183 (by decide)
theorem td_137_186 : decode (tw_cd 137) 186 = .ok (.aload_n 0, 1) := by decide +kernel
theorem tz_137_186 : tw_E sc d 137 186 [some (.ref a), x1, x2] st g mi mr Q = tw_E sc d 137 187 [some (.ref a), x1, x2] (.ref a :: st) g mi mr Q := tw_x_aload_n td_137_186 rfl
theorem td_137_187 : decode (tw_cd 137) 187 = .ok (.bipush 126, 2) := by decide +kernel
theorem tz_137_187 : tw_E sc d 137 187 [x0, x1, x2] st g mi mr Q = tw_E sc d 137 189 [x0, x1, x2] (.int 126 :: st) g mi mr Q := tw_x_bipush td_137_187 (by decide)
theorem td_137_189 : decode (tw_cd 137) 189 = .ok (.invokevirtual 135, 3) := by decide +kernel
theorem tz_137_189 {a0 : Int32} : tw_E sc (d + 1) 137 189 [x0, x1, x2] ([.int a0, .ref a]) g mi mr Q = (tw_kd g a = 10 ∧ tw_E sc d 132 0 [some (.ref a), some (.int a0)] [] g mi mr (tw_K sc (d + 1) 137 192 [x0, x1, x2] [] Q)) := tw_x_cv (as := [.int a0]) (r := []) td_137_189 to_137 tc_10_135 to_132 rfl rfl rfl rfl
theorem td_137_192 : decode (tw_cd 137) 192 = .ok (.ifCond .eq 47, 3) := by decide +kernel
theorem tz_137_192 : tw_E sc d 137 192 [x0, x1, x2] (.int v :: st) g mi mr Q = if v = 0 then tw_E sc d 137 239 [x0, x1, x2] st g mi mr Q else tw_E sc d 137 195 [x0, x1, x2] st g mi mr Q := tw_x_if_eq td_137_192 (by decide)
theorem td_137_195 : decode (tw_cd 137) 195 = .ok (.aload_n 0, 1) := by decide +kernel
theorem tz_137_195 : tw_E sc d 137 195 [some (.ref a), x1, x2] st g mi mr Q = tw_E sc d 137 196 [some (.ref a), x1, x2] (.ref a :: st) g mi mr Q := tw_x_aload_n td_137_195 rfl
theorem td_137_196 : decode (tw_cd 137) 196 = .ok (.bipush 43, 2) := by decide +kernel
theorem tz_137_196 : tw_E sc d 137 196 [x0, x1, x2] st g mi mr Q = tw_E sc d 137 198 [x0, x1, x2] (.int 43 :: st) g mi mr Q := tw_x_bipush td_137_196 (by decide)
theorem td_137_198 : decode (tw_cd 137) 198 = .ok (.invokevirtual 135, 3) := by decide +kernel
theorem tz_137_198 {a0 : Int32} : tw_E sc (d + 1) 137 198 [x0, x1, x2] ([.int a0, .ref a]) g mi mr Q = (tw_kd g a = 10 ∧ tw_E sc d 132 0 [some (.ref a), some (.int a0)] [] g mi mr (tw_K sc (d + 1) 137 201 [x0, x1, x2] [] Q)) := tw_x_cv (as := [.int a0]) (r := []) td_137_198 to_137 tc_10_135 to_132 rfl rfl rfl rfl
theorem td_137_201 : decode (tw_cd 137) 201 = .ok (.ifCond .eq 7, 3) := by decide +kernel
theorem tz_137_201 : tw_E sc d 137 201 [x0, x1, x2] (.int v :: st) g mi mr Q = if v = 0 then tw_E sc d 137 208 [x0, x1, x2] st g mi mr Q else tw_E sc d 137 204 [x0, x1, x2] st g mi mr Q := tw_x_if_eq td_137_201 (by decide)
theorem td_137_204 : decode (tw_cd 137) 204 = .ok (.iconst 0, 1) := by decide +kernel
theorem tz_137_204 : tw_E sc d 137 204 [x0, x1, x2] st g mi mr Q = tw_E sc d 137 205 [x0, x1, x2] (.int 0 :: st) g mi mr Q := tw_x_iconst td_137_204 (by decide)
theorem td_137_205 : decode (tw_cd 137) 205 = .ok (.goto 17, 3) := by decide +kernel
theorem tz_137_205 : tw_E sc d 137 205 [x0, x1, x2] st g mi mr Q = tw_E sc d 137 222 [x0, x1, x2] st g mi mr Q := tw_x_goto td_137_205 (by decide)
theorem td_137_208 : decode (tw_cd 137) 208 = .ok (.aload_n 0, 1) := by decide +kernel
theorem tz_137_208 : tw_E sc d 137 208 [some (.ref a), x1, x2] st g mi mr Q = tw_E sc d 137 209 [some (.ref a), x1, x2] (.ref a :: st) g mi mr Q := tw_x_aload_n td_137_208 rfl
theorem td_137_209 : decode (tw_cd 137) 209 = .ok (.bipush 45, 2) := by decide +kernel
theorem tz_137_209 : tw_E sc d 137 209 [x0, x1, x2] st g mi mr Q = tw_E sc d 137 211 [x0, x1, x2] (.int 45 :: st) g mi mr Q := tw_x_bipush td_137_209 (by decide)
theorem td_137_211 : decode (tw_cd 137) 211 = .ok (.invokevirtual 135, 3) := by decide +kernel
theorem tz_137_211 {a0 : Int32} : tw_E sc (d + 1) 137 211 [x0, x1, x2] ([.int a0, .ref a]) g mi mr Q = (tw_kd g a = 10 ∧ tw_E sc d 132 0 [some (.ref a), some (.int a0)] [] g mi mr (tw_K sc (d + 1) 137 214 [x0, x1, x2] [] Q)) := tw_x_cv (as := [.int a0]) (r := []) td_137_211 to_137 tc_10_135 to_132 rfl rfl rfl rfl
theorem td_137_214 : decode (tw_cd 137) 214 = .ok (.ifCond .eq 7, 3) := by decide +kernel
theorem tz_137_214 : tw_E sc d 137 214 [x0, x1, x2] (.int v :: st) g mi mr Q = if v = 0 then tw_E sc d 137 221 [x0, x1, x2] st g mi mr Q else tw_E sc d 137 217 [x0, x1, x2] st g mi mr Q := tw_x_if_eq td_137_214 (by decide)
theorem td_137_217 : decode (tw_cd 137) 217 = .ok (.iconst 1, 1) := by decide +kernel
theorem tz_137_217 : tw_E sc d 137 217 [x0, x1, x2] st g mi mr Q = tw_E sc d 137 218 [x0, x1, x2] (.int 1 :: st) g mi mr Q := tw_x_iconst td_137_217 (by decide)
theorem td_137_218 : decode (tw_cd 137) 218 = .ok (.goto 4, 3) := by decide +kernel
theorem tz_137_218 : tw_E sc d 137 218 [x0, x1, x2] st g mi mr Q = tw_E sc d 137 222 [x0, x1, x2] st g mi mr Q := tw_x_goto td_137_218 (by decide)
theorem td_137_221 : decode (tw_cd 137) 221 = .ok (.iconst 2, 1) := by decide +kernel
theorem tz_137_221 : tw_E sc d 137 221 [x0, x1, x2] st g mi mr Q = tw_E sc d 137 222 [x0, x1, x2] (.int 2 :: st) g mi mr Q := tw_x_iconst td_137_221 (by decide)
theorem td_137_222 : decode (tw_cd 137) 222 = .ok (.istore_n 2, 1) := by decide +kernel
theorem tz_137_222 : tw_E sc d 137 222 [x0, x1, x2] (.int v :: st) g mi mr Q = tw_E sc d 137 223 [x0, x1, some (.int v)] st g mi mr Q := tw_x_istore_n td_137_222 tp_137 rfl
theorem td_137_223 : decode (tw_cd 137) 223 = .ok (.aload_n 0, 1) := by decide +kernel
theorem tz_137_223 : tw_E sc d 137 223 [some (.ref a), x1, x2] st g mi mr Q = tw_E sc d 137 224 [some (.ref a), x1, x2] (.ref a :: st) g mi mr Q := tw_x_aload_n td_137_223 rfl
theorem td_137_224 : decode (tw_cd 137) 224 = .ok (.invokevirtual 141, 3) := by decide +kernel
theorem tz_137_224 : tw_E sc (d + 1) 137 224 [x0, x1, x2] ([.ref a]) g mi mr Q = (tw_kd g a = 10 ∧ tw_E sc d 131 0 [some (.ref a)] [] g mi mr (tw_K sc (d + 1) 137 227 [x0, x1, x2] [] Q)) := tw_x_cv (as := []) (r := []) td_137_224 to_137 tc_10_141 to_131 rfl rfl rfl rfl
theorem td_137_227 : decode (tw_cd 137) 227 = .ok (.aload_n 0, 1) := by decide +kernel
theorem tz_137_227 : tw_E sc d 137 227 [some (.ref a), x1, x2] st g mi mr Q = tw_E sc d 137 228 [some (.ref a), x1, x2] (.ref a :: st) g mi mr Q := tw_x_aload_n td_137_227 rfl
theorem td_137_228 : decode (tw_cd 137) 228 = .ok (.iconst 1, 1) := by decide +kernel
theorem tz_137_228 : tw_E sc d 137 228 [x0, x1, x2] st g mi mr Q = tw_E sc d 137 229 [x0, x1, x2] (.int 1 :: st) g mi mr Q := tw_x_iconst td_137_228 (by decide)
theorem td_137_229 : decode (tw_cd 137) 229 = .ok (.iload_n 1, 1) := by decide +kernel
theorem tz_137_229 : tw_E sc d 137 229 [x0, some (.int v), x2] st g mi mr Q = tw_E sc d 137 230 [x0, some (.int v), x2] (.int v :: st) g mi mr Q := tw_x_iload_n td_137_229 rfl
theorem td_137_230 : decode (tw_cd 137) 230 = .ok (.iload_n 2, 1) := by decide +kernel
theorem tz_137_230 : tw_E sc d 137 230 [x0, x1, some (.int v)] st g mi mr Q = tw_E sc d 137 231 [x0, x1, some (.int v)] (.int v :: st) g mi mr Q := tw_x_iload_n td_137_230 rfl
theorem td_137_231 : decode (tw_cd 137) 231 = .ok (.bipush (-9), 2) := by decide +kernel
theorem tz_137_231 : tw_E sc d 137 231 [x0, x1, x2] st g mi mr Q = tw_E sc d 137 233 [x0, x1, x2] (.int (-9) :: st) g mi mr Q := tw_x_bipush td_137_231 (by decide)
theorem td_137_233 : decode (tw_cd 137) 233 = .ok (.bipush (-9), 2) := by decide +kernel
theorem tz_137_233 : tw_E sc d 137 233 [x0, x1, x2] st g mi mr Q = tw_E sc d 137 235 [x0, x1, x2] (.int (-9) :: st) g mi mr Q := tw_x_bipush td_137_233 (by decide)
theorem td_137_235 : decode (tw_cd 137) 235 = .ok (.invokevirtual 148, 3) := by decide +kernel
theorem tz_137_235 {a0 : Int32} {a1 : Int32} {a2 : Int32} {a3 : Int32} {a4 : Int32} : tw_E sc (d + 1) 137 235 [x0, x1, x2] ([.int a4, .int a3, .int a2, .int a1, .int a0, .ref a]) g mi mr Q = (tw_kd g a = 10 ∧ tw_E sc d 133 0 [some (.ref a), some (.int a0), some (.int a1), some (.int a2), some (.int a3), some (.int a4)] [] g mi mr (tw_K sc (d + 1) 137 238 [x0, x1, x2] [] Q)) := tw_x_cv (as := [.int a0, .int a1, .int a2, .int a3, .int a4]) (r := []) td_137_235 to_137 tc_10_148 to_133 rfl rfl rfl rfl
theorem td_137_238 : decode (tw_cd 137) 238 = .ok (.ireturn, 1) := by decide +kernel
theorem tz_137_238 : tw_E sc d 137 238 [x0, x1, x2] ([.int v]) g mi mr Q = Q (some (.int v)) g mi mr := tw_x_iret td_137_238 tr_137
theorem td_137_239 : decode (tw_cd 137) 239 = .ok (.aload_n 0, 1) := by decide +kernel
theorem tz_137_239 : tw_E sc d 137 239 [some (.ref a), x1, x2] st g mi mr Q = tw_E sc d 137 240 [some (.ref a), x1, x2] (.ref a :: st) g mi mr Q := tw_x_aload_n td_137_239 rfl
theorem td_137_240 : decode (tw_cd 137) 240 = .ok (.iconst 0, 1) := by decide +kernel
theorem tz_137_240 : tw_E sc d 137 240 [x0, x1, x2] st g mi mr Q = tw_E sc d 137 241 [x0, x1, x2] (.int 0 :: st) g mi mr Q := tw_x_iconst td_137_240 (by decide)
theorem td_137_241 : decode (tw_cd 137) 241 = .ok (.iload_n 1, 1) := by decide +kernel
theorem tz_137_241 : tw_E sc d 137 241 [x0, some (.int v), x2] st g mi mr Q = tw_E sc d 137 242 [x0, some (.int v), x2] (.int v :: st) g mi mr Q := tw_x_iload_n td_137_241 rfl
theorem td_137_242 : decode (tw_cd 137) 242 = .ok (.bipush (-9), 2) := by decide +kernel
theorem tz_137_242 : tw_E sc d 137 242 [x0, x1, x2] st g mi mr Q = tw_E sc d 137 244 [x0, x1, x2] (.int (-9) :: st) g mi mr Q := tw_x_bipush td_137_242 (by decide)
theorem td_137_244 : decode (tw_cd 137) 244 = .ok (.bipush (-9), 2) := by decide +kernel
theorem tz_137_244 : tw_E sc d 137 244 [x0, x1, x2] st g mi mr Q = tw_E sc d 137 246 [x0, x1, x2] (.int (-9) :: st) g mi mr Q := tw_x_bipush td_137_244 (by decide)
theorem td_137_246 : decode (tw_cd 137) 246 = .ok (.bipush (-9), 2) := by decide +kernel
theorem tz_137_246 : tw_E sc d 137 246 [x0, x1, x2] st g mi mr Q = tw_E sc d 137 248 [x0, x1, x2] (.int (-9) :: st) g mi mr Q := tw_x_bipush td_137_246 (by decide)
theorem td_137_248 : decode (tw_cd 137) 248 = .ok (.invokevirtual 148, 3) := by decide +kernel
theorem tz_137_248 {a0 : Int32} {a1 : Int32} {a2 : Int32} {a3 : Int32} {a4 : Int32} : tw_E sc (d + 1) 137 248 [x0, x1, x2] ([.int a4, .int a3, .int a2, .int a1, .int a0, .ref a]) g mi mr Q = (tw_kd g a = 10 ∧ tw_E sc d 133 0 [some (.ref a), some (.int a0), some (.int a1), some (.int a2), some (.int a3), some (.int a4)] [] g mi mr (tw_K sc (d + 1) 137 251 [x0, x1, x2] [] Q)) := tw_x_cv (as := [.int a0, .int a1, .int a2, .int a3, .int a4]) (r := []) td_137_248 to_137 tc_10_148 to_133 rfl rfl rfl rfl
theorem td_137_251 : decode (tw_cd 137) 251 = .ok (.ireturn, 1) := by decide +kernel
theorem tz_137_251 : tw_E sc d 137 251 [x0, x1, x2] ([.int v]) g mi mr Q = Q (some (.int v)) g mi mr := tw_x_iret td_137_251 tr_137
end tz_137
-- 138: Mo_closed
section tz_138
variable {sc : Nat × (Nat → Int32)} {d : Nat} {x0 x1 x2 : Option Value} {st : List Value} {g : tw_G} {mi : tw_I} {mr : tw_Q} {Q : Option Value → tw_G → tw_I → tw_Q → Prop} {v w u : Int32} {a b : Nat} {j h : Int64} {s1 s2 s3 s4 : Value}
theorem td_138_0 : decode (tw_cd 138) 0 = .ok (.iload_n 1, 1) := by decide +kernel
theorem tz_138_0 : tw_E sc d 138 0 [x0, some (.int v), x2] st g mi mr Q = tw_E sc d 138 1 [x0, some (.int v), x2] (.int v :: st) g mi mr Q := tw_x_iload_n td_138_0 rfl
theorem td_138_1 : decode (tw_cd 138) 1 = .ok (.istore_n 2, 1) := by decide +kernel
theorem tz_138_1 : tw_E sc d 138 1 [x0, x1, x2] (.int v :: st) g mi mr Q = tw_E sc d 138 2 [x0, x1, some (.int v)] st g mi mr Q := tw_x_istore_n td_138_1 tp_138 rfl
theorem td_138_2 : decode (tw_cd 138) 2 = .ok (.aload_n 0, 1) := by decide +kernel
theorem tz_138_2 : tw_E sc d 138 2 [some (.ref a), x1, x2] st g mi mr Q = tw_E sc d 138 3 [some (.ref a), x1, x2] (.ref a :: st) g mi mr Q := tw_x_aload_n td_138_2 rfl
theorem td_138_3 : decode (tw_cd 138) 3 = .ok (.iconst 1, 1) := by decide +kernel
theorem tz_138_3 : tw_E sc d 138 3 [x0, x1, x2] st g mi mr Q = tw_E sc d 138 4 [x0, x1, x2] (.int 1 :: st) g mi mr Q := tw_x_iconst td_138_3 (by decide)
theorem td_138_4 : decode (tw_cd 138) 4 = .ok (.invokevirtual 152, 3) := by decide +kernel
theorem tz_138_4 {a0 : Int32} : tw_E sc (d + 1) 138 4 [x0, x1, x2] ([.int a0, .ref a]) g mi mr Q = (tw_kd g a = 10 ∧ tw_E sc d 135 0 [some (.ref a), some (.int a0)] [] g mi mr (tw_K sc (d + 1) 138 7 [x0, x1, x2] [] Q)) := tw_x_cv (as := [.int a0]) (r := []) td_138_4 to_138 tc_10_152 to_135 rfl rfl rfl rfl
theorem td_138_7 : decode (tw_cd 138) 7 = .ok (.ifCond .ne 11, 3) := by decide +kernel
theorem tz_138_7 : tw_E sc d 138 7 [x0, x1, x2] (.int v :: st) g mi mr Q = if ¬ v = 0 then tw_E sc d 138 18 [x0, x1, x2] st g mi mr Q else tw_E sc d 138 10 [x0, x1, x2] st g mi mr Q := tw_x_if_ne td_138_7 (by decide)
theorem td_138_10 : decode (tw_cd 138) 10 = .ok (.aload_n 0, 1) := by decide +kernel
theorem tz_138_10 : tw_E sc d 138 10 [some (.ref a), x1, x2] st g mi mr Q = tw_E sc d 138 11 [some (.ref a), x1, x2] (.ref a :: st) g mi mr Q := tw_x_aload_n td_138_10 rfl
theorem td_138_11 : decode (tw_cd 138) 11 = .ok (.iconst 2, 1) := by decide +kernel
theorem tz_138_11 : tw_E sc d 138 11 [x0, x1, x2] st g mi mr Q = tw_E sc d 138 12 [x0, x1, x2] (.int 2 :: st) g mi mr Q := tw_x_iconst td_138_11 (by decide)
theorem td_138_12 : decode (tw_cd 138) 12 = .ok (.invokevirtual 152, 3) := by decide +kernel
theorem tz_138_12 {a0 : Int32} : tw_E sc (d + 1) 138 12 [x0, x1, x2] ([.int a0, .ref a]) g mi mr Q = (tw_kd g a = 10 ∧ tw_E sc d 135 0 [some (.ref a), some (.int a0)] [] g mi mr (tw_K sc (d + 1) 138 15 [x0, x1, x2] [] Q)) := tw_x_cv (as := [.int a0]) (r := []) td_138_12 to_138 tc_10_152 to_135 rfl rfl rfl rfl
theorem td_138_15 : decode (tw_cd 138) 15 = .ok (.ifCond .eq 74, 3) := by decide +kernel
theorem tz_138_15 : tw_E sc d 138 15 [x0, x1, x2] (.int v :: st) g mi mr Q = if v = 0 then tw_E sc d 138 89 [x0, x1, x2] st g mi mr Q else tw_E sc d 138 18 [x0, x1, x2] st g mi mr Q := tw_x_if_eq td_138_15 (by decide)
theorem td_138_18 : decode (tw_cd 138) 18 = .ok (.aload_n 0, 1) := by decide +kernel
theorem tz_138_18 : tw_E sc d 138 18 [some (.ref a), x1, x2] st g mi mr Q = tw_E sc d 138 19 [some (.ref a), x1, x2] (.ref a :: st) g mi mr Q := tw_x_aload_n td_138_18 rfl
theorem td_138_19 : decode (tw_cd 138) 19 = .ok (.dup, 1) := by decide +kernel
theorem tz_138_19 : tw_E sc d 138 19 [x0, x1, x2] (.ref a :: st) g mi mr Q = tw_E sc d 138 20 [x0, x1, x2] (.ref a :: .ref a :: st) g mi mr Q := tw_x_dup_ref td_138_19
theorem td_138_20 : decode (tw_cd 138) 20 = .ok (.getfield 126, 3) := by decide +kernel
theorem tz_138_20 : tw_E sc d 138 20 [x0, x1, x2] (.ref a :: st) g mi mr Q = (tw_kd g a = 10 ∧ tw_E sc d 138 23 [x0, x1, x2] (.int (mi a 33) :: st) g mi mr Q) := tw_x_geti td_138_20 to_138 tf_10_126 (trf_10_33)
theorem td_138_23 : decode (tw_cd 138) 23 = .ok (.iconst 1, 1) := by decide +kernel
theorem tz_138_23 : tw_E sc d 138 23 [x0, x1, x2] st g mi mr Q = tw_E sc d 138 24 [x0, x1, x2] (.int 1 :: st) g mi mr Q := tw_x_iconst td_138_23 (by decide)
theorem td_138_24 : decode (tw_cd 138) 24 = .ok (.isub, 1) := by decide +kernel
theorem tz_138_24 : tw_E sc d 138 24 [x0, x1, x2] (.int w :: .int v :: st) g mi mr Q = tw_E sc d 138 25 [x0, x1, x2] (.int (v - w) :: st) g mi mr Q := tw_x_isub td_138_24
theorem td_138_25 : decode (tw_cd 138) 25 = .ok (.putfield 126, 3) := by decide +kernel
theorem tz_138_25 : tw_E sc d 138 25 [x0, x1, x2] (.int v :: .ref a :: st) g mi mr Q = (tw_kd g a = 10 ∧ tw_E sc d 138 28 [x0, x1, x2] st g (tw_st mi a (tw_st (mi a) 33 v)) mr Q) := tw_x_puti td_138_25 to_138 tf_10_126 rfl rfl
theorem td_138_28 : decode (tw_cd 138) 28 = .ok (.aload_n 0, 1) := by decide +kernel
theorem tz_138_28 : tw_E sc d 138 28 [some (.ref a), x1, x2] st g mi mr Q = tw_E sc d 138 29 [some (.ref a), x1, x2] (.ref a :: st) g mi mr Q := tw_x_aload_n td_138_28 rfl
theorem td_138_29 : decode (tw_cd 138) 29 = .ok (.dup, 1) := by decide +kernel
theorem tz_138_29 : tw_E sc d 138 29 [x0, x1, x2] (.ref a :: st) g mi mr Q = tw_E sc d 138 30 [x0, x1, x2] (.ref a :: .ref a :: st) g mi mr Q := tw_x_dup_ref td_138_29
theorem td_138_30 : decode (tw_cd 138) 30 = .ok (.getfield 129, 3) := by decide +kernel
theorem tz_138_30 : tw_E sc d 138 30 [x0, x1, x2] (.ref a :: st) g mi mr Q = (tw_kd g a = 10 ∧ tw_E sc d 138 33 [x0, x1, x2] (.int (mi a 38) :: st) g mi mr Q) := tw_x_geti td_138_30 to_138 tf_10_129 (trf_10_38)
theorem td_138_33 : decode (tw_cd 138) 33 = .ok (.iconst 1, 1) := by decide +kernel
theorem tz_138_33 : tw_E sc d 138 33 [x0, x1, x2] st g mi mr Q = tw_E sc d 138 34 [x0, x1, x2] (.int 1 :: st) g mi mr Q := tw_x_iconst td_138_33 (by decide)
theorem td_138_34 : decode (tw_cd 138) 34 = .ok (.isub, 1) := by decide +kernel
theorem tz_138_34 : tw_E sc d 138 34 [x0, x1, x2] (.int w :: .int v :: st) g mi mr Q = tw_E sc d 138 35 [x0, x1, x2] (.int (v - w) :: st) g mi mr Q := tw_x_isub td_138_34
theorem td_138_35 : decode (tw_cd 138) 35 = .ok (.putfield 129, 3) := by decide +kernel
theorem tz_138_35 : tw_E sc d 138 35 [x0, x1, x2] (.int v :: .ref a :: st) g mi mr Q = (tw_kd g a = 10 ∧ tw_E sc d 138 38 [x0, x1, x2] st g (tw_st mi a (tw_st (mi a) 38 v)) mr Q) := tw_x_puti td_138_35 to_138 tf_10_129 rfl rfl
theorem td_138_38 : decode (tw_cd 138) 38 = .ok (.aload_n 0, 1) := by decide +kernel
theorem tz_138_38 : tw_E sc d 138 38 [some (.ref a), x1, x2] st g mi mr Q = tw_E sc d 138 39 [some (.ref a), x1, x2] (.ref a :: st) g mi mr Q := tw_x_aload_n td_138_38 rfl
theorem td_138_39 : decode (tw_cd 138) 39 = .ok (.getfield 71, 3) := by decide +kernel
theorem tz_138_39 : tw_E sc d 138 39 [x0, x1, x2] (.ref a :: st) g mi mr Q = (tw_kd g a = 10 ∧ tw_E sc d 138 42 [x0, x1, x2] (va_rf (mr a 34) :: st) g mi mr Q) := tw_x_getr td_138_39 to_138 tf_10_71 (trf_10_34)
theorem td_138_42 : decode (tw_cd 138) 42 = .ok (.aload_n 0, 1) := by decide +kernel
theorem tz_138_42 : tw_E sc d 138 42 [some (.ref a), x1, x2] st g mi mr Q = tw_E sc d 138 43 [some (.ref a), x1, x2] (.ref a :: st) g mi mr Q := tw_x_aload_n td_138_42 rfl
theorem td_138_43 : decode (tw_cd 138) 43 = .ok (.getfield 126, 3) := by decide +kernel
theorem tz_138_43 : tw_E sc d 138 43 [x0, x1, x2] (.ref a :: st) g mi mr Q = (tw_kd g a = 10 ∧ tw_E sc d 138 46 [x0, x1, x2] (.int (mi a 33) :: st) g mi mr Q) := tw_x_geti td_138_43 to_138 tf_10_126 (trf_10_33)
theorem td_138_46 : decode (tw_cd 138) 46 = .ok (.iaload, 1) := by decide +kernel
theorem tz_138_46 : tw_E sc d 138 46 [x0, x1, x2] (.int v :: .ref a :: st) g mi mr Q = ((tw_kd g a = 20 ∧ vp_in v (tw_ln g a)) ∧ tw_E sc d 138 47 [x0, x1, x2] (.int (mi a v.toNatClampNeg) :: st) g mi mr Q) := tw_x_iald td_138_46
theorem td_138_47 : decode (tw_cd 138) 47 = .ok (.iconst 1, 1) := by decide +kernel
theorem tz_138_47 : tw_E sc d 138 47 [x0, x1, x2] st g mi mr Q = tw_E sc d 138 48 [x0, x1, x2] (.int 1 :: st) g mi mr Q := tw_x_iconst td_138_47 (by decide)
theorem td_138_48 : decode (tw_cd 138) 48 = .ok (.if_icmp .ne 18, 3) := by decide +kernel
theorem tz_138_48 : tw_E sc d 138 48 [x0, x1, x2] (.int w :: .int v :: st) g mi mr Q = if ¬ v = w then tw_E sc d 138 66 [x0, x1, x2] st g mi mr Q else tw_E sc d 138 51 [x0, x1, x2] st g mi mr Q := tw_x_ic_ne td_138_48 (by decide)
theorem td_138_51 : decode (tw_cd 138) 51 = .ok (.aload_n 0, 1) := by decide +kernel
theorem tz_138_51 : tw_E sc d 138 51 [some (.ref a), x1, x2] st g mi mr Q = tw_E sc d 138 52 [some (.ref a), x1, x2] (.ref a :: st) g mi mr Q := tw_x_aload_n td_138_51 rfl
theorem td_138_52 : decode (tw_cd 138) 52 = .ok (.iconst 2, 1) := by decide +kernel
theorem tz_138_52 : tw_E sc d 138 52 [x0, x1, x2] st g mi mr Q = tw_E sc d 138 53 [x0, x1, x2] (.int 2 :: st) g mi mr Q := tw_x_iconst td_138_52 (by decide)
theorem td_138_53 : decode (tw_cd 138) 53 = .ok (.iload_n 2, 1) := by decide +kernel
theorem tz_138_53 : tw_E sc d 138 53 [x0, x1, some (.int v)] st g mi mr Q = tw_E sc d 138 54 [x0, x1, some (.int v)] (.int v :: st) g mi mr Q := tw_x_iload_n td_138_53 rfl
theorem td_138_54 : decode (tw_cd 138) 54 = .ok (.bipush (-9), 2) := by decide +kernel
theorem tz_138_54 : tw_E sc d 138 54 [x0, x1, x2] st g mi mr Q = tw_E sc d 138 56 [x0, x1, x2] (.int (-9) :: st) g mi mr Q := tw_x_bipush td_138_54 (by decide)
theorem td_138_56 : decode (tw_cd 138) 56 = .ok (.bipush (-9), 2) := by decide +kernel
theorem tz_138_56 : tw_E sc d 138 56 [x0, x1, x2] st g mi mr Q = tw_E sc d 138 58 [x0, x1, x2] (.int (-9) :: st) g mi mr Q := tw_x_bipush td_138_56 (by decide)
theorem td_138_58 : decode (tw_cd 138) 58 = .ok (.bipush (-9), 2) := by decide +kernel
theorem tz_138_58 : tw_E sc d 138 58 [x0, x1, x2] st g mi mr Q = tw_E sc d 138 60 [x0, x1, x2] (.int (-9) :: st) g mi mr Q := tw_x_bipush td_138_58 (by decide)
theorem td_138_60 : decode (tw_cd 138) 60 = .ok (.invokevirtual 148, 3) := by decide +kernel
theorem tz_138_60 {a0 : Int32} {a1 : Int32} {a2 : Int32} {a3 : Int32} {a4 : Int32} : tw_E sc (d + 1) 138 60 [x0, x1, x2] ([.int a4, .int a3, .int a2, .int a1, .int a0, .ref a]) g mi mr Q = (tw_kd g a = 10 ∧ tw_E sc d 133 0 [some (.ref a), some (.int a0), some (.int a1), some (.int a2), some (.int a3), some (.int a4)] [] g mi mr (tw_K sc (d + 1) 138 63 [x0, x1, x2] [] Q)) := tw_x_cv (as := [.int a0, .int a1, .int a2, .int a3, .int a4]) (r := []) td_138_60 to_138 tc_10_148 to_133 rfl rfl rfl rfl
theorem td_138_63 : decode (tw_cd 138) 63 = .ok (.goto 22, 3) := by decide +kernel
theorem tz_138_63 : tw_E sc d 138 63 [x0, x1, x2] st g mi mr Q = tw_E sc d 138 85 [x0, x1, x2] st g mi mr Q := tw_x_goto td_138_63 (by decide)
theorem td_138_66 : decode (tw_cd 138) 66 = .ok (.aload_n 0, 1) := by decide +kernel
theorem tz_138_66 : tw_E sc d 138 66 [some (.ref a), x1, x2] st g mi mr Q = tw_E sc d 138 67 [some (.ref a), x1, x2] (.ref a :: st) g mi mr Q := tw_x_aload_n td_138_66 rfl
theorem td_138_67 : decode (tw_cd 138) 67 = .ok (.iconst 5, 1) := by decide +kernel
theorem tz_138_67 : tw_E sc d 138 67 [x0, x1, x2] st g mi mr Q = tw_E sc d 138 68 [x0, x1, x2] (.int 5 :: st) g mi mr Q := tw_x_iconst td_138_67 (by decide)
theorem td_138_68 : decode (tw_cd 138) 68 = .ok (.iload_n 2, 1) := by decide +kernel
theorem tz_138_68 : tw_E sc d 138 68 [x0, x1, some (.int v)] st g mi mr Q = tw_E sc d 138 69 [x0, x1, some (.int v)] (.int v :: st) g mi mr Q := tw_x_iload_n td_138_68 rfl
theorem td_138_69 : decode (tw_cd 138) 69 = .ok (.bipush (-9), 2) := by decide +kernel
theorem tz_138_69 : tw_E sc d 138 69 [x0, x1, x2] st g mi mr Q = tw_E sc d 138 71 [x0, x1, x2] (.int (-9) :: st) g mi mr Q := tw_x_bipush td_138_69 (by decide)
theorem td_138_71 : decode (tw_cd 138) 71 = .ok (.aload_n 0, 1) := by decide +kernel
theorem tz_138_71 : tw_E sc d 138 71 [some (.ref a), x1, x2] st g mi mr Q = tw_E sc d 138 72 [some (.ref a), x1, x2] (.ref a :: st) g mi mr Q := tw_x_aload_n td_138_71 rfl
theorem td_138_72 : decode (tw_cd 138) 72 = .ok (.getfield 77, 3) := by decide +kernel
theorem tz_138_72 : tw_E sc d 138 72 [x0, x1, x2] (.ref a :: st) g mi mr Q = (tw_kd g a = 10 ∧ tw_E sc d 138 75 [x0, x1, x2] (va_rf (mr a 36) :: st) g mi mr Q) := tw_x_getr td_138_72 to_138 tf_10_77 (trf_10_36)
theorem td_138_75 : decode (tw_cd 138) 75 = .ok (.aload_n 0, 1) := by decide +kernel
theorem tz_138_75 : tw_E sc d 138 75 [some (.ref a), x1, x2] st g mi mr Q = tw_E sc d 138 76 [some (.ref a), x1, x2] (.ref a :: st) g mi mr Q := tw_x_aload_n td_138_75 rfl
theorem td_138_76 : decode (tw_cd 138) 76 = .ok (.getfield 126, 3) := by decide +kernel
theorem tz_138_76 : tw_E sc d 138 76 [x0, x1, x2] (.ref a :: st) g mi mr Q = (tw_kd g a = 10 ∧ tw_E sc d 138 79 [x0, x1, x2] (.int (mi a 33) :: st) g mi mr Q) := tw_x_geti td_138_76 to_138 tf_10_126 (trf_10_33)
theorem td_138_79 : decode (tw_cd 138) 79 = .ok (.iaload, 1) := by decide +kernel
theorem tz_138_79 : tw_E sc d 138 79 [x0, x1, x2] (.int v :: .ref a :: st) g mi mr Q = ((tw_kd g a = 20 ∧ vp_in v (tw_ln g a)) ∧ tw_E sc d 138 80 [x0, x1, x2] (.int (mi a v.toNatClampNeg) :: st) g mi mr Q) := tw_x_iald td_138_79
theorem td_138_80 : decode (tw_cd 138) 80 = .ok (.bipush (-9), 2) := by decide +kernel
theorem tz_138_80 : tw_E sc d 138 80 [x0, x1, x2] st g mi mr Q = tw_E sc d 138 82 [x0, x1, x2] (.int (-9) :: st) g mi mr Q := tw_x_bipush td_138_80 (by decide)
theorem td_138_82 : decode (tw_cd 138) 82 = .ok (.invokevirtual 148, 3) := by decide +kernel
theorem tz_138_82 {a0 : Int32} {a1 : Int32} {a2 : Int32} {a3 : Int32} {a4 : Int32} : tw_E sc (d + 1) 138 82 [x0, x1, x2] ([.int a4, .int a3, .int a2, .int a1, .int a0, .ref a]) g mi mr Q = (tw_kd g a = 10 ∧ tw_E sc d 133 0 [some (.ref a), some (.int a0), some (.int a1), some (.int a2), some (.int a3), some (.int a4)] [] g mi mr (tw_K sc (d + 1) 138 85 [x0, x1, x2] [] Q)) := tw_x_cv (as := [.int a0, .int a1, .int a2, .int a3, .int a4]) (r := []) td_138_82 to_138 tc_10_148 to_133 rfl rfl rfl rfl
theorem td_138_85 : decode (tw_cd 138) 85 = .ok (.istore_n 2, 1) := by decide +kernel
theorem tz_138_85 : tw_E sc d 138 85 [x0, x1, x2] (.int v :: st) g mi mr Q = tw_E sc d 138 86 [x0, x1, some (.int v)] st g mi mr Q := tw_x_istore_n td_138_85 tp_138 rfl
theorem td_138_86 : decode (tw_cd 138) 86 = .ok (.goto (-84), 3) := by decide +kernel
theorem tz_138_86 : tw_E sc d 138 86 [x0, x1, x2] st g mi mr Q = tw_E sc d 138 2 [x0, x1, x2] st g mi mr Q := tw_x_goto td_138_86 (by decide)
theorem td_138_89 : decode (tw_cd 138) 89 = .ok (.aload_n 0, 1) := by decide +kernel
theorem tz_138_89 : tw_E sc d 138 89 [some (.ref a), x1, x2] st g mi mr Q = tw_E sc d 138 90 [some (.ref a), x1, x2] (.ref a :: st) g mi mr Q := tw_x_aload_n td_138_89 rfl
theorem td_138_90 : decode (tw_cd 138) 90 = .ok (.iconst 3, 1) := by decide +kernel
theorem tz_138_90 : tw_E sc d 138 90 [x0, x1, x2] st g mi mr Q = tw_E sc d 138 91 [x0, x1, x2] (.int 3 :: st) g mi mr Q := tw_x_iconst td_138_90 (by decide)
theorem td_138_91 : decode (tw_cd 138) 91 = .ok (.invokevirtual 152, 3) := by decide +kernel
theorem tz_138_91 {a0 : Int32} : tw_E sc (d + 1) 138 91 [x0, x1, x2] ([.int a0, .ref a]) g mi mr Q = (tw_kd g a = 10 ∧ tw_E sc d 135 0 [some (.ref a), some (.int a0)] [] g mi mr (tw_K sc (d + 1) 138 94 [x0, x1, x2] [] Q)) := tw_x_cv (as := [.int a0]) (r := []) td_138_91 to_138 tc_10_152 to_135 rfl rfl rfl rfl
theorem td_138_94 : decode (tw_cd 138) 94 = .ok (.ifCond .eq 33, 3) := by decide +kernel
theorem tz_138_94 : tw_E sc d 138 94 [x0, x1, x2] (.int v :: st) g mi mr Q = if v = 0 then tw_E sc d 138 127 [x0, x1, x2] st g mi mr Q else tw_E sc d 138 97 [x0, x1, x2] st g mi mr Q := tw_x_if_eq td_138_94 (by decide)
theorem td_138_97 : decode (tw_cd 138) 97 = .ok (.aload_n 0, 1) := by decide +kernel
theorem tz_138_97 : tw_E sc d 138 97 [some (.ref a), x1, x2] st g mi mr Q = tw_E sc d 138 98 [some (.ref a), x1, x2] (.ref a :: st) g mi mr Q := tw_x_aload_n td_138_97 rfl
theorem td_138_98 : decode (tw_cd 138) 98 = .ok (.dup, 1) := by decide +kernel
theorem tz_138_98 : tw_E sc d 138 98 [x0, x1, x2] (.ref a :: st) g mi mr Q = tw_E sc d 138 99 [x0, x1, x2] (.ref a :: .ref a :: st) g mi mr Q := tw_x_dup_ref td_138_98
theorem td_138_99 : decode (tw_cd 138) 99 = .ok (.getfield 126, 3) := by decide +kernel
theorem tz_138_99 : tw_E sc d 138 99 [x0, x1, x2] (.ref a :: st) g mi mr Q = (tw_kd g a = 10 ∧ tw_E sc d 138 102 [x0, x1, x2] (.int (mi a 33) :: st) g mi mr Q) := tw_x_geti td_138_99 to_138 tf_10_126 (trf_10_33)
theorem td_138_102 : decode (tw_cd 138) 102 = .ok (.iconst 1, 1) := by decide +kernel
theorem tz_138_102 : tw_E sc d 138 102 [x0, x1, x2] st g mi mr Q = tw_E sc d 138 103 [x0, x1, x2] (.int 1 :: st) g mi mr Q := tw_x_iconst td_138_102 (by decide)
theorem td_138_103 : decode (tw_cd 138) 103 = .ok (.isub, 1) := by decide +kernel
theorem tz_138_103 : tw_E sc d 138 103 [x0, x1, x2] (.int w :: .int v :: st) g mi mr Q = tw_E sc d 138 104 [x0, x1, x2] (.int (v - w) :: st) g mi mr Q := tw_x_isub td_138_103
theorem td_138_104 : decode (tw_cd 138) 104 = .ok (.putfield 126, 3) := by decide +kernel
theorem tz_138_104 : tw_E sc d 138 104 [x0, x1, x2] (.int v :: .ref a :: st) g mi mr Q = (tw_kd g a = 10 ∧ tw_E sc d 138 107 [x0, x1, x2] st g (tw_st mi a (tw_st (mi a) 33 v)) mr Q) := tw_x_puti td_138_104 to_138 tf_10_126 rfl rfl
theorem td_138_107 : decode (tw_cd 138) 107 = .ok (.aload_n 0, 1) := by decide +kernel
theorem tz_138_107 : tw_E sc d 138 107 [some (.ref a), x1, x2] st g mi mr Q = tw_E sc d 138 108 [some (.ref a), x1, x2] (.ref a :: st) g mi mr Q := tw_x_aload_n td_138_107 rfl
theorem td_138_108 : decode (tw_cd 138) 108 = .ok (.iconst 3, 1) := by decide +kernel
theorem tz_138_108 : tw_E sc d 138 108 [x0, x1, x2] st g mi mr Q = tw_E sc d 138 109 [x0, x1, x2] (.int 3 :: st) g mi mr Q := tw_x_iconst td_138_108 (by decide)
theorem td_138_109 : decode (tw_cd 138) 109 = .ok (.aload_n 0, 1) := by decide +kernel
theorem tz_138_109 : tw_E sc d 138 109 [some (.ref a), x1, x2] st g mi mr Q = tw_E sc d 138 110 [some (.ref a), x1, x2] (.ref a :: st) g mi mr Q := tw_x_aload_n td_138_109 rfl
theorem td_138_110 : decode (tw_cd 138) 110 = .ok (.getfield 74, 3) := by decide +kernel
theorem tz_138_110 : tw_E sc d 138 110 [x0, x1, x2] (.ref a :: st) g mi mr Q = (tw_kd g a = 10 ∧ tw_E sc d 138 113 [x0, x1, x2] (va_rf (mr a 35) :: st) g mi mr Q) := tw_x_getr td_138_110 to_138 tf_10_74 (trf_10_35)
theorem td_138_113 : decode (tw_cd 138) 113 = .ok (.aload_n 0, 1) := by decide +kernel
theorem tz_138_113 : tw_E sc d 138 113 [some (.ref a), x1, x2] st g mi mr Q = tw_E sc d 138 114 [some (.ref a), x1, x2] (.ref a :: st) g mi mr Q := tw_x_aload_n td_138_113 rfl
theorem td_138_114 : decode (tw_cd 138) 114 = .ok (.getfield 126, 3) := by decide +kernel
theorem tz_138_114 : tw_E sc d 138 114 [x0, x1, x2] (.ref a :: st) g mi mr Q = (tw_kd g a = 10 ∧ tw_E sc d 138 117 [x0, x1, x2] (.int (mi a 33) :: st) g mi mr Q) := tw_x_geti td_138_114 to_138 tf_10_126 (trf_10_33)
theorem td_138_117 : decode (tw_cd 138) 117 = .ok (.iaload, 1) := by decide +kernel
theorem tz_138_117 : tw_E sc d 138 117 [x0, x1, x2] (.int v :: .ref a :: st) g mi mr Q = ((tw_kd g a = 20 ∧ vp_in v (tw_ln g a)) ∧ tw_E sc d 138 118 [x0, x1, x2] (.int (mi a v.toNatClampNeg) :: st) g mi mr Q) := tw_x_iald td_138_117
theorem td_138_118 : decode (tw_cd 138) 118 = .ok (.iload_n 2, 1) := by decide +kernel
theorem tz_138_118 : tw_E sc d 138 118 [x0, x1, some (.int v)] st g mi mr Q = tw_E sc d 138 119 [x0, x1, some (.int v)] (.int v :: st) g mi mr Q := tw_x_iload_n td_138_118 rfl
theorem td_138_119 : decode (tw_cd 138) 119 = .ok (.bipush (-9), 2) := by decide +kernel
theorem tz_138_119 : tw_E sc d 138 119 [x0, x1, x2] st g mi mr Q = tw_E sc d 138 121 [x0, x1, x2] (.int (-9) :: st) g mi mr Q := tw_x_bipush td_138_119 (by decide)
theorem td_138_121 : decode (tw_cd 138) 121 = .ok (.bipush (-9), 2) := by decide +kernel
theorem tz_138_121 : tw_E sc d 138 121 [x0, x1, x2] st g mi mr Q = tw_E sc d 138 123 [x0, x1, x2] (.int (-9) :: st) g mi mr Q := tw_x_bipush td_138_121 (by decide)
theorem td_138_123 : decode (tw_cd 138) 123 = .ok (.invokevirtual 148, 3) := by decide +kernel
theorem tz_138_123 {a0 : Int32} {a1 : Int32} {a2 : Int32} {a3 : Int32} {a4 : Int32} : tw_E sc (d + 1) 138 123 [x0, x1, x2] ([.int a4, .int a3, .int a2, .int a1, .int a0, .ref a]) g mi mr Q = (tw_kd g a = 10 ∧ tw_E sc d 133 0 [some (.ref a), some (.int a0), some (.int a1), some (.int a2), some (.int a3), some (.int a4)] [] g mi mr (tw_K sc (d + 1) 138 126 [x0, x1, x2] [] Q)) := tw_x_cv (as := [.int a0, .int a1, .int a2, .int a3, .int a4]) (r := []) td_138_123 to_138 tc_10_148 to_133 rfl rfl rfl rfl
theorem td_138_126 : decode (tw_cd 138) 126 = .ok (.istore_n 2, 1) := by decide +kernel
theorem tz_138_126 : tw_E sc d 138 126 [x0, x1, x2] (.int v :: st) g mi mr Q = tw_E sc d 138 127 [x0, x1, some (.int v)] st g mi mr Q := tw_x_istore_n td_138_126 tp_138 rfl
theorem td_138_127 : decode (tw_cd 138) 127 = .ok (.iload_n 2, 1) := by decide +kernel
theorem tz_138_127 : tw_E sc d 138 127 [x0, x1, some (.int v)] st g mi mr Q = tw_E sc d 138 128 [x0, x1, some (.int v)] (.int v :: st) g mi mr Q := tw_x_iload_n td_138_127 rfl
theorem td_138_128 : decode (tw_cd 138) 128 = .ok (.ireturn, 1) := by decide +kernel
theorem tz_138_128 : tw_E sc d 138 128 [x0, x1, x2] ([.int v]) g mi mr Q = Q (some (.int v)) g mi mr := tw_x_iret td_138_128 tr_138
end tz_138
-- 139: Mo_goOn
section tz_139
variable {sc : Nat × (Nat → Int32)} {d : Nat} {x0 x1 x2 x3 x4 : Option Value} {st : List Value} {g : tw_G} {mi : tw_I} {mr : tw_Q} {Q : Option Value → tw_G → tw_I → tw_Q → Prop} {v w u : Int32} {a b : Nat} {j h : Int64} {s1 s2 s3 s4 : Value}
theorem td_139_0 : decode (tw_cd 139) 0 = .ok (.aload_n 0, 1) := by decide +kernel
theorem tz_139_0 : tw_E sc d 139 0 [some (.ref a), x1, x2, x3, x4] st g mi mr Q = tw_E sc d 139 1 [some (.ref a), x1, x2, x3, x4] (.ref a :: st) g mi mr Q := tw_x_aload_n td_139_0 rfl
theorem td_139_1 : decode (tw_cd 139) 1 = .ok (.invokevirtual 141, 3) := by decide +kernel
theorem tz_139_1 : tw_E sc (d + 1) 139 1 [x0, x1, x2, x3, x4] ([.ref a]) g mi mr Q = (tw_kd g a = 10 ∧ tw_E sc d 131 0 [some (.ref a)] [] g mi mr (tw_K sc (d + 1) 139 4 [x0, x1, x2, x3, x4] [] Q)) := tw_x_cv (as := []) (r := []) td_139_1 to_139 tc_10_141 to_131 rfl rfl rfl rfl
theorem td_139_4 : decode (tw_cd 139) 4 = .ok (.aload_n 0, 1) := by decide +kernel
theorem tz_139_4 : tw_E sc d 139 4 [some (.ref a), x1, x2, x3, x4] st g mi mr Q = tw_E sc d 139 5 [some (.ref a), x1, x2, x3, x4] (.ref a :: st) g mi mr Q := tw_x_aload_n td_139_4 rfl
theorem td_139_5 : decode (tw_cd 139) 5 = .ok (.getfield 109, 3) := by decide +kernel
theorem tz_139_5 : tw_E sc d 139 5 [x0, x1, x2, x3, x4] (.ref a :: st) g mi mr Q = (tw_kd g a = 10 ∧ tw_E sc d 139 8 [x0, x1, x2, x3, x4] (.int (mi a 30) :: st) g mi mr Q) := tw_x_geti td_139_5 to_139 tf_10_109 (trf_10_30)
theorem td_139_8 : decode (tw_cd 139) 8 = .ok (.iconst 1, 1) := by decide +kernel
theorem tz_139_8 : tw_E sc d 139 8 [x0, x1, x2, x3, x4] st g mi mr Q = tw_E sc d 139 9 [x0, x1, x2, x3, x4] (.int 1 :: st) g mi mr Q := tw_x_iconst td_139_8 (by decide)
theorem td_139_9 : decode (tw_cd 139) 9 = .ok (.if_icmp .eq 14, 3) := by decide +kernel
theorem tz_139_9 : tw_E sc d 139 9 [x0, x1, x2, x3, x4] (.int w :: .int v :: st) g mi mr Q = if v = w then tw_E sc d 139 23 [x0, x1, x2, x3, x4] st g mi mr Q else tw_E sc d 139 12 [x0, x1, x2, x3, x4] st g mi mr Q := tw_x_ic_eq td_139_9 (by decide)
theorem td_139_12 : decode (tw_cd 139) 12 = .ok (.aload_n 0, 1) := by decide +kernel
theorem tz_139_12 : tw_E sc d 139 12 [some (.ref a), x1, x2, x3, x4] st g mi mr Q = tw_E sc d 139 13 [some (.ref a), x1, x2, x3, x4] (.ref a :: st) g mi mr Q := tw_x_aload_n td_139_12 rfl
theorem td_139_13 : decode (tw_cd 139) 13 = .ok (.iconst 5, 1) := by decide +kernel
theorem tz_139_13 : tw_E sc d 139 13 [x0, x1, x2, x3, x4] st g mi mr Q = tw_E sc d 139 14 [x0, x1, x2, x3, x4] (.int 5 :: st) g mi mr Q := tw_x_iconst td_139_13 (by decide)
theorem td_139_14 : decode (tw_cd 139) 14 = .ok (.iload_n 1, 1) := by decide +kernel
theorem tz_139_14 : tw_E sc d 139 14 [x0, some (.int v), x2, x3, x4] st g mi mr Q = tw_E sc d 139 15 [x0, some (.int v), x2, x3, x4] (.int v :: st) g mi mr Q := tw_x_iload_n td_139_14 rfl
theorem td_139_15 : decode (tw_cd 139) 15 = .ok (.bipush (-9), 2) := by decide +kernel
theorem tz_139_15 : tw_E sc d 139 15 [x0, x1, x2, x3, x4] st g mi mr Q = tw_E sc d 139 17 [x0, x1, x2, x3, x4] (.int (-9) :: st) g mi mr Q := tw_x_bipush td_139_15 (by decide)
theorem td_139_17 : decode (tw_cd 139) 17 = .ok (.bipush (-9), 2) := by decide +kernel
theorem tz_139_17 : tw_E sc d 139 17 [x0, x1, x2, x3, x4] st g mi mr Q = tw_E sc d 139 19 [x0, x1, x2, x3, x4] (.int (-9) :: st) g mi mr Q := tw_x_bipush td_139_17 (by decide)
theorem td_139_19 : decode (tw_cd 139) 19 = .ok (.invokevirtual 144, 3) := by decide +kernel
theorem tz_139_19 {a0 : Int32} {a1 : Int32} {a2 : Int32} {a3 : Int32} : tw_E sc (d + 1) 139 19 [x0, x1, x2, x3, x4] ([.int a3, .int a2, .int a1, .int a0, .ref a]) g mi mr Q = (tw_kd g a = 10 ∧ tw_E sc d 134 0 [some (.ref a), some (.int a0), some (.int a1), some (.int a2), some (.int a3)] [] g mi mr (tw_K sc (d + 1) 139 22 [x0, x1, x2, x3, x4] [] Q)) := tw_x_cv (as := [.int a0, .int a1, .int a2, .int a3]) (r := []) td_139_19 to_139 tc_10_144 to_134 rfl rfl rfl rfl
theorem td_139_22 : decode (tw_cd 139) 22 = .ok (.return_, 1) := by decide +kernel
theorem tz_139_22 : tw_E sc d 139 22 [x0, x1, x2, x3, x4] [] g mi mr Q = Q none g mi mr := tw_x_vret td_139_22 tr_139
theorem td_139_23 : decode (tw_cd 139) 23 = .ok (.aload_n 0, 1) := by decide +kernel
theorem tz_139_23 : tw_E sc d 139 23 [some (.ref a), x1, x2, x3, x4] st g mi mr Q = tw_E sc d 139 24 [some (.ref a), x1, x2, x3, x4] (.ref a :: st) g mi mr Q := tw_x_aload_n td_139_23 rfl
theorem td_139_24 : decode (tw_cd 139) 24 = .ok (.getfield 106, 3) := by decide +kernel
theorem tz_139_24 : tw_E sc d 139 24 [x0, x1, x2, x3, x4] (.ref a :: st) g mi mr Q = (tw_kd g a = 10 ∧ tw_E sc d 139 27 [x0, x1, x2, x3, x4] (.int (mi a 32) :: st) g mi mr Q) := tw_x_geti td_139_24 to_139 tf_10_106 (trf_10_32)
theorem td_139_27 : decode (tw_cd 139) 27 = .ok (.istore_n 2, 1) := by decide +kernel
theorem tz_139_27 : tw_E sc d 139 27 [x0, x1, x2, x3, x4] (.int v :: st) g mi mr Q = tw_E sc d 139 28 [x0, x1, some (.int v), x3, x4] st g mi mr Q := tw_x_istore_n td_139_27 tp_139 rfl
theorem td_139_28 : decode (tw_cd 139) 28 = .ok (.aload_n 0, 1) := by decide +kernel
theorem tz_139_28 : tw_E sc d 139 28 [some (.ref a), x1, x2, x3, x4] st g mi mr Q = tw_E sc d 139 29 [some (.ref a), x1, x2, x3, x4] (.ref a :: st) g mi mr Q := tw_x_aload_n td_139_28 rfl
theorem td_139_29 : decode (tw_cd 139) 29 = .ok (.getfield 103, 3) := by decide +kernel
theorem tz_139_29 : tw_E sc d 139 29 [x0, x1, x2, x3, x4] (.ref a :: st) g mi mr Q = (tw_kd g a = 10 ∧ tw_E sc d 139 32 [x0, x1, x2, x3, x4] (.int (mi a 31) :: st) g mi mr Q) := tw_x_geti td_139_29 to_139 tf_10_103 (trf_10_31)
theorem td_139_32 : decode (tw_cd 139) 32 = .ok (.istore_n 3, 1) := by decide +kernel
theorem tz_139_32 : tw_E sc d 139 32 [x0, x1, x2, x3, x4] (.int v :: st) g mi mr Q = tw_E sc d 139 33 [x0, x1, x2, some (.int v), x4] st g mi mr Q := tw_x_istore_n td_139_32 tp_139 rfl
theorem td_139_33 : decode (tw_cd 139) 33 = .ok (.aload_n 0, 1) := by decide +kernel
theorem tz_139_33 : tw_E sc d 139 33 [some (.ref a), x1, x2, x3, x4] st g mi mr Q = tw_E sc d 139 34 [some (.ref a), x1, x2, x3, x4] (.ref a :: st) g mi mr Q := tw_x_aload_n td_139_33 rfl
theorem td_139_34 : decode (tw_cd 139) 34 = .ok (.invokevirtual 141, 3) := by decide +kernel
theorem tz_139_34 : tw_E sc (d + 1) 139 34 [x0, x1, x2, x3, x4] ([.ref a]) g mi mr Q = (tw_kd g a = 10 ∧ tw_E sc d 131 0 [some (.ref a)] [] g mi mr (tw_K sc (d + 1) 139 37 [x0, x1, x2, x3, x4] [] Q)) := tw_x_cv (as := []) (r := []) td_139_34 to_139 tc_10_141 to_131 rfl rfl rfl rfl
theorem td_139_37 : decode (tw_cd 139) 37 = .ok (.aload_n 0, 1) := by decide +kernel
theorem tz_139_37 : tw_E sc d 139 37 [some (.ref a), x1, x2, x3, x4] st g mi mr Q = tw_E sc d 139 38 [some (.ref a), x1, x2, x3, x4] (.ref a :: st) g mi mr Q := tw_x_aload_n td_139_37 rfl
theorem td_139_38 : decode (tw_cd 139) 38 = .ok (.bipush 42, 2) := by decide +kernel
theorem tz_139_38 : tw_E sc d 139 38 [x0, x1, x2, x3, x4] st g mi mr Q = tw_E sc d 139 40 [x0, x1, x2, x3, x4] (.int 42 :: st) g mi mr Q := tw_x_bipush td_139_38 (by decide)
theorem td_139_40 : decode (tw_cd 139) 40 = .ok (.invokevirtual 135, 3) := by decide +kernel
theorem tz_139_40 {a0 : Int32} : tw_E sc (d + 1) 139 40 [x0, x1, x2, x3, x4] ([.int a0, .ref a]) g mi mr Q = (tw_kd g a = 10 ∧ tw_E sc d 132 0 [some (.ref a), some (.int a0)] [] g mi mr (tw_K sc (d + 1) 139 43 [x0, x1, x2, x3, x4] [] Q)) := tw_x_cv (as := [.int a0]) (r := []) td_139_40 to_139 tc_10_135 to_132 rfl rfl rfl rfl
theorem td_139_43 : decode (tw_cd 139) 43 = .ok (.ifCond .eq 43, 3) := by decide +kernel
theorem tz_139_43 : tw_E sc d 139 43 [x0, x1, x2, x3, x4] (.int v :: st) g mi mr Q = if v = 0 then tw_E sc d 139 86 [x0, x1, x2, x3, x4] st g mi mr Q else tw_E sc d 139 46 [x0, x1, x2, x3, x4] st g mi mr Q := tw_x_if_eq td_139_43 (by decide)
theorem td_139_46 : decode (tw_cd 139) 46 = .ok (.aload_n 0, 1) := by decide +kernel
theorem tz_139_46 : tw_E sc d 139 46 [some (.ref a), x1, x2, x3, x4] st g mi mr Q = tw_E sc d 139 47 [some (.ref a), x1, x2, x3, x4] (.ref a :: st) g mi mr Q := tw_x_aload_n td_139_46 rfl
theorem td_139_47 : decode (tw_cd 139) 47 = .ok (.iconst 5, 1) := by decide +kernel
theorem tz_139_47 : tw_E sc d 139 47 [x0, x1, x2, x3, x4] st g mi mr Q = tw_E sc d 139 48 [x0, x1, x2, x3, x4] (.int 5 :: st) g mi mr Q := tw_x_iconst td_139_47 (by decide)
theorem td_139_48 : decode (tw_cd 139) 48 = .ok (.iload_n 1, 1) := by decide +kernel
theorem tz_139_48 : tw_E sc d 139 48 [x0, some (.int v), x2, x3, x4] st g mi mr Q = tw_E sc d 139 49 [x0, some (.int v), x2, x3, x4] (.int v :: st) g mi mr Q := tw_x_iload_n td_139_48 rfl
theorem td_139_49 : decode (tw_cd 139) 49 = .ok (.bipush (-9), 2) := by decide +kernel
theorem tz_139_49 : tw_E sc d 139 49 [x0, x1, x2, x3, x4] st g mi mr Q = tw_E sc d 139 51 [x0, x1, x2, x3, x4] (.int (-9) :: st) g mi mr Q := tw_x_bipush td_139_49 (by decide)
theorem td_139_51 : decode (tw_cd 139) 51 = .ok (.bipush (-9), 2) := by decide +kernel
theorem tz_139_51 : tw_E sc d 139 51 [x0, x1, x2, x3, x4] st g mi mr Q = tw_E sc d 139 53 [x0, x1, x2, x3, x4] (.int (-9) :: st) g mi mr Q := tw_x_bipush td_139_51 (by decide)
theorem td_139_53 : decode (tw_cd 139) 53 = .ok (.invokevirtual 144, 3) := by decide +kernel
theorem tz_139_53 {a0 : Int32} {a1 : Int32} {a2 : Int32} {a3 : Int32} : tw_E sc (d + 1) 139 53 [x0, x1, x2, x3, x4] ([.int a3, .int a2, .int a1, .int a0, .ref a]) g mi mr Q = (tw_kd g a = 10 ∧ tw_E sc d 134 0 [some (.ref a), some (.int a0), some (.int a1), some (.int a2), some (.int a3)] [] g mi mr (tw_K sc (d + 1) 139 56 [x0, x1, x2, x3, x4] [] Q)) := tw_x_cv (as := [.int a0, .int a1, .int a2, .int a3]) (r := []) td_139_53 to_139 tc_10_144 to_134 rfl rfl rfl rfl
theorem td_139_56 : decode (tw_cd 139) 56 = .ok (.aload_n 0, 1) := by decide +kernel
theorem tz_139_56 : tw_E sc d 139 56 [some (.ref a), x1, x2, x3, x4] st g mi mr Q = tw_E sc d 139 57 [some (.ref a), x1, x2, x3, x4] (.ref a :: st) g mi mr Q := tw_x_aload_n td_139_56 rfl
theorem td_139_57 : decode (tw_cd 139) 57 = .ok (.getfield 129, 3) := by decide +kernel
theorem tz_139_57 : tw_E sc d 139 57 [x0, x1, x2, x3, x4] (.ref a :: st) g mi mr Q = (tw_kd g a = 10 ∧ tw_E sc d 139 60 [x0, x1, x2, x3, x4] (.int (mi a 38) :: st) g mi mr Q) := tw_x_geti td_139_57 to_139 tf_10_129 (trf_10_38)
theorem td_139_60 : decode (tw_cd 139) 60 = .ok (.bipush 10, 2) := by decide +kernel
theorem tz_139_60 : tw_E sc d 139 60 [x0, x1, x2, x3, x4] st g mi mr Q = tw_E sc d 139 62 [x0, x1, x2, x3, x4] (.int 10 :: st) g mi mr Q := tw_x_bipush td_139_60 (by decide)
theorem td_139_62 : decode (tw_cd 139) 62 = .ok (.if_icmp .ne 9, 3) := by decide +kernel
theorem tz_139_62 : tw_E sc d 139 62 [x0, x1, x2, x3, x4] (.int w :: .int v :: st) g mi mr Q = if ¬ v = w then tw_E sc d 139 71 [x0, x1, x2, x3, x4] st g mi mr Q else tw_E sc d 139 65 [x0, x1, x2, x3, x4] st g mi mr Q := tw_x_ic_ne td_139_62 (by decide)
theorem td_139_65 : decode (tw_cd 139) 65 = .ok (.aload_n 0, 1) := by decide +kernel
theorem tz_139_65 : tw_E sc d 139 65 [some (.ref a), x1, x2, x3, x4] st g mi mr Q = tw_E sc d 139 66 [some (.ref a), x1, x2, x3, x4] (.ref a :: st) g mi mr Q := tw_x_aload_n td_139_65 rfl
theorem td_139_66 : decode (tw_cd 139) 66 = .ok (.iload_n 3, 1) := by decide +kernel
theorem tz_139_66 : tw_E sc d 139 66 [x0, x1, x2, some (.int v), x4] st g mi mr Q = tw_E sc d 139 67 [x0, x1, x2, some (.int v), x4] (.int v :: st) g mi mr Q := tw_x_iload_n td_139_66 rfl
theorem td_139_67 : decode (tw_cd 139) 67 = .ok (.putfield 132, 3) := by decide +kernel
theorem tz_139_67 : tw_E sc d 139 67 [x0, x1, x2, x3, x4] (.int v :: .ref a :: st) g mi mr Q = (tw_kd g a = 10 ∧ tw_E sc d 139 70 [x0, x1, x2, x3, x4] st g (tw_st mi a (tw_st (mi a) 39 v)) mr Q) := tw_x_puti td_139_67 to_139 tf_10_132 rfl rfl
theorem td_139_70 : decode (tw_cd 139) 70 = .ok (.return_, 1) := by decide +kernel
theorem tz_139_70 : tw_E sc d 139 70 [x0, x1, x2, x3, x4] [] g mi mr Q = Q none g mi mr := tw_x_vret td_139_70 tr_139
theorem td_139_71 : decode (tw_cd 139) 71 = .ok (.aload_n 0, 1) := by decide +kernel
theorem tz_139_71 : tw_E sc d 139 71 [some (.ref a), x1, x2, x3, x4] st g mi mr Q = tw_E sc d 139 72 [some (.ref a), x1, x2, x3, x4] (.ref a :: st) g mi mr Q := tw_x_aload_n td_139_71 rfl
theorem td_139_72 : decode (tw_cd 139) 72 = .ok (.iconst 2, 1) := by decide +kernel
theorem tz_139_72 : tw_E sc d 139 72 [x0, x1, x2, x3, x4] st g mi mr Q = tw_E sc d 139 73 [x0, x1, x2, x3, x4] (.int 2 :: st) g mi mr Q := tw_x_iconst td_139_72 (by decide)
theorem td_139_73 : decode (tw_cd 139) 73 = .ok (.bipush (-9), 2) := by decide +kernel
theorem tz_139_73 : tw_E sc d 139 73 [x0, x1, x2, x3, x4] st g mi mr Q = tw_E sc d 139 75 [x0, x1, x2, x3, x4] (.int (-9) :: st) g mi mr Q := tw_x_bipush td_139_73 (by decide)
theorem td_139_75 : decode (tw_cd 139) 75 = .ok (.iload_n 2, 1) := by decide +kernel
theorem tz_139_75 : tw_E sc d 139 75 [x0, x1, some (.int v), x3, x4] st g mi mr Q = tw_E sc d 139 76 [x0, x1, some (.int v), x3, x4] (.int v :: st) g mi mr Q := tw_x_iload_n td_139_75 rfl
theorem td_139_76 : decode (tw_cd 139) 76 = .ok (.bipush (-9), 2) := by decide +kernel
theorem tz_139_76 : tw_E sc d 139 76 [x0, x1, x2, x3, x4] st g mi mr Q = tw_E sc d 139 78 [x0, x1, x2, x3, x4] (.int (-9) :: st) g mi mr Q := tw_x_bipush td_139_76 (by decide)
theorem td_139_78 : decode (tw_cd 139) 78 = .ok (.invokevirtual 144, 3) := by decide +kernel
theorem tz_139_78 {a0 : Int32} {a1 : Int32} {a2 : Int32} {a3 : Int32} : tw_E sc (d + 1) 139 78 [x0, x1, x2, x3, x4] ([.int a3, .int a2, .int a1, .int a0, .ref a]) g mi mr Q = (tw_kd g a = 10 ∧ tw_E sc d 134 0 [some (.ref a), some (.int a0), some (.int a1), some (.int a2), some (.int a3)] [] g mi mr (tw_K sc (d + 1) 139 81 [x0, x1, x2, x3, x4] [] Q)) := tw_x_cv (as := [.int a0, .int a1, .int a2, .int a3]) (r := []) td_139_78 to_139 tc_10_144 to_134 rfl rfl rfl rfl
theorem td_139_81 : decode (tw_cd 139) 81 = .ok (.aload_n 0, 1) := by decide +kernel
theorem tz_139_81 : tw_E sc d 139 81 [some (.ref a), x1, x2, x3, x4] st g mi mr Q = tw_E sc d 139 82 [some (.ref a), x1, x2, x3, x4] (.ref a :: st) g mi mr Q := tw_x_aload_n td_139_81 rfl
theorem td_139_82 : decode (tw_cd 139) 82 = .ok (.invokevirtual 141, 3) := by decide +kernel
theorem tz_139_82 : tw_E sc (d + 1) 139 82 [x0, x1, x2, x3, x4] ([.ref a]) g mi mr Q = (tw_kd g a = 10 ∧ tw_E sc d 131 0 [some (.ref a)] [] g mi mr (tw_K sc (d + 1) 139 85 [x0, x1, x2, x3, x4] [] Q)) := tw_x_cv (as := []) (r := []) td_139_82 to_139 tc_10_141 to_131 rfl rfl rfl rfl
theorem td_139_85 : decode (tw_cd 139) 85 = .ok (.return_, 1) := by decide +kernel
theorem tz_139_85 : tw_E sc d 139 85 [x0, x1, x2, x3, x4] [] g mi mr Q = Q none g mi mr := tw_x_vret td_139_85 tr_139
theorem td_139_86 : decode (tw_cd 139) 86 = .ok (.aload_n 0, 1) := by decide +kernel
theorem tz_139_86 : tw_E sc d 139 86 [some (.ref a), x1, x2, x3, x4] st g mi mr Q = tw_E sc d 139 87 [some (.ref a), x1, x2, x3, x4] (.ref a :: st) g mi mr Q := tw_x_aload_n td_139_86 rfl
theorem td_139_87 : decode (tw_cd 139) 87 = .ok (.bipush 44, 2) := by decide +kernel
theorem tz_139_87 : tw_E sc d 139 87 [x0, x1, x2, x3, x4] st g mi mr Q = tw_E sc d 139 89 [x0, x1, x2, x3, x4] (.int 44 :: st) g mi mr Q := tw_x_bipush td_139_87 (by decide)
theorem td_139_89 : decode (tw_cd 139) 89 = .ok (.invokevirtual 135, 3) := by decide +kernel
theorem tz_139_89 {a0 : Int32} : tw_E sc (d + 1) 139 89 [x0, x1, x2, x3, x4] ([.int a0, .ref a]) g mi mr Q = (tw_kd g a = 10 ∧ tw_E sc d 132 0 [some (.ref a), some (.int a0)] [] g mi mr (tw_K sc (d + 1) 139 92 [x0, x1, x2, x3, x4] [] Q)) := tw_x_cv (as := [.int a0]) (r := []) td_139_89 to_139 tc_10_135 to_132 rfl rfl rfl rfl
theorem td_139_92 : decode (tw_cd 139) 92 = .ok (.ifCond .ne 8, 3) := by decide +kernel
theorem tz_139_92 : tw_E sc d 139 92 [x0, x1, x2, x3, x4] (.int v :: st) g mi mr Q = if ¬ v = 0 then tw_E sc d 139 100 [x0, x1, x2, x3, x4] st g mi mr Q else tw_E sc d 139 95 [x0, x1, x2, x3, x4] st g mi mr Q := tw_x_if_ne td_139_92 (by decide)
theorem td_139_95 : decode (tw_cd 139) 95 = .ok (.aload_n 0, 1) := by decide +kernel
theorem tz_139_95 : tw_E sc d 139 95 [some (.ref a), x1, x2, x3, x4] st g mi mr Q = tw_E sc d 139 96 [some (.ref a), x1, x2, x3, x4] (.ref a :: st) g mi mr Q := tw_x_aload_n td_139_95 rfl
theorem td_139_96 : decode (tw_cd 139) 96 = .ok (.invokevirtual 138, 3) := by decide +kernel
theorem tz_139_96 : tw_E sc (d + 1) 139 96 [x0, x1, x2, x3, x4] ([.ref a]) g mi mr Q = (tw_kd g a = 10 ∧ tw_E sc d 136 0 [some (.ref a)] [] g mi mr (tw_K sc (d + 1) 139 99 [x0, x1, x2, x3, x4] [] Q)) := tw_x_cv (as := []) (r := []) td_139_96 to_139 tc_10_138 to_136 rfl rfl rfl rfl
theorem td_139_99 : decode (tw_cd 139) 99 = .ok (.return_, 1) := by decide +kernel
theorem tz_139_99 : tw_E sc d 139 99 [x0, x1, x2, x3, x4] [] g mi mr Q = Q none g mi mr := tw_x_vret td_139_99 tr_139
theorem td_139_100 : decode (tw_cd 139) 100 = .ok (.aload_n 0, 1) := by decide +kernel
theorem tz_139_100 : tw_E sc d 139 100 [some (.ref a), x1, x2, x3, x4] st g mi mr Q = tw_E sc d 139 101 [some (.ref a), x1, x2, x3, x4] (.ref a :: st) g mi mr Q := tw_x_aload_n td_139_100 rfl
theorem td_139_101 : decode (tw_cd 139) 101 = .ok (.invokevirtual 141, 3) := by decide +kernel
theorem tz_139_101 : tw_E sc (d + 1) 139 101 [x0, x1, x2, x3, x4] ([.ref a]) g mi mr Q = (tw_kd g a = 10 ∧ tw_E sc d 131 0 [some (.ref a)] [] g mi mr (tw_K sc (d + 1) 139 104 [x0, x1, x2, x3, x4] [] Q)) := tw_x_cv (as := []) (r := []) td_139_101 to_139 tc_10_141 to_131 rfl rfl rfl rfl
theorem td_139_104 : decode (tw_cd 139) 104 = .ok (.aload_n 0, 1) := by decide +kernel
theorem tz_139_104 : tw_E sc d 139 104 [some (.ref a), x1, x2, x3, x4] st g mi mr Q = tw_E sc d 139 105 [some (.ref a), x1, x2, x3, x4] (.ref a :: st) g mi mr Q := tw_x_aload_n td_139_104 rfl
theorem td_139_105 : decode (tw_cd 139) 105 = .ok (.getfield 109, 3) := by decide +kernel
theorem tz_139_105 : tw_E sc d 139 105 [x0, x1, x2, x3, x4] (.ref a :: st) g mi mr Q = (tw_kd g a = 10 ∧ tw_E sc d 139 108 [x0, x1, x2, x3, x4] (.int (mi a 30) :: st) g mi mr Q) := tw_x_geti td_139_105 to_139 tf_10_109 (trf_10_30)
theorem td_139_108 : decode (tw_cd 139) 108 = .ok (.iconst 1, 1) := by decide +kernel
theorem tz_139_108 : tw_E sc d 139 108 [x0, x1, x2, x3, x4] st g mi mr Q = tw_E sc d 139 109 [x0, x1, x2, x3, x4] (.int 1 :: st) g mi mr Q := tw_x_iconst td_139_108 (by decide)
theorem td_139_109 : decode (tw_cd 139) 109 = .ok (.if_icmp .eq 8, 3) := by decide +kernel
theorem tz_139_109 : tw_E sc d 139 109 [x0, x1, x2, x3, x4] (.int w :: .int v :: st) g mi mr Q = if v = w then tw_E sc d 139 117 [x0, x1, x2, x3, x4] st g mi mr Q else tw_E sc d 139 112 [x0, x1, x2, x3, x4] st g mi mr Q := tw_x_ic_eq td_139_109 (by decide)
theorem td_139_112 : decode (tw_cd 139) 112 = .ok (.aload_n 0, 1) := by decide +kernel
theorem tz_139_112 : tw_E sc d 139 112 [some (.ref a), x1, x2, x3, x4] st g mi mr Q = tw_E sc d 139 113 [some (.ref a), x1, x2, x3, x4] (.ref a :: st) g mi mr Q := tw_x_aload_n td_139_112 rfl
theorem td_139_113 : decode (tw_cd 139) 113 = .ok (.invokevirtual 138, 3) := by decide +kernel
theorem tz_139_113 : tw_E sc (d + 1) 139 113 [x0, x1, x2, x3, x4] ([.ref a]) g mi mr Q = (tw_kd g a = 10 ∧ tw_E sc d 136 0 [some (.ref a)] [] g mi mr (tw_K sc (d + 1) 139 116 [x0, x1, x2, x3, x4] [] Q)) := tw_x_cv (as := []) (r := []) td_139_113 to_139 tc_10_138 to_136 rfl rfl rfl rfl
theorem td_139_116 : decode (tw_cd 139) 116 = .ok (.return_, 1) := by decide +kernel
theorem tz_139_116 : tw_E sc d 139 116 [x0, x1, x2, x3, x4] [] g mi mr Q = Q none g mi mr := tw_x_vret td_139_116 tr_139
theorem td_139_117 : decode (tw_cd 139) 117 = .ok (.aload_n 0, 1) := by decide +kernel
theorem tz_139_117 : tw_E sc d 139 117 [some (.ref a), x1, x2, x3, x4] st g mi mr Q = tw_E sc d 139 118 [some (.ref a), x1, x2, x3, x4] (.ref a :: st) g mi mr Q := tw_x_aload_n td_139_117 rfl
theorem td_139_118 : decode (tw_cd 139) 118 = .ok (.getfield 106, 3) := by decide +kernel
theorem tz_139_118 : tw_E sc d 139 118 [x0, x1, x2, x3, x4] (.ref a :: st) g mi mr Q = (tw_kd g a = 10 ∧ tw_E sc d 139 121 [x0, x1, x2, x3, x4] (.int (mi a 32) :: st) g mi mr Q) := tw_x_geti td_139_118 to_139 tf_10_106 (trf_10_32)
theorem td_139_121 : decode (tw_cd 139) 121 = .ok (.istore 4, 2) := by decide +kernel
theorem tz_139_121 : tw_E sc d 139 121 [x0, x1, x2, x3, x4] (.int v :: st) g mi mr Q = tw_E sc d 139 123 [x0, x1, x2, x3, some (.int v)] st g mi mr Q := tw_x_istore td_139_121 tp_139 rfl
theorem td_139_123 : decode (tw_cd 139) 123 = .ok (.aload_n 0, 1) := by decide +kernel
theorem tz_139_123 : tw_E sc d 139 123 [some (.ref a), x1, x2, x3, x4] st g mi mr Q = tw_E sc d 139 124 [some (.ref a), x1, x2, x3, x4] (.ref a :: st) g mi mr Q := tw_x_aload_n td_139_123 rfl
theorem td_139_124 : decode (tw_cd 139) 124 = .ok (.iload 4, 2) := by decide +kernel
theorem tz_139_124 : tw_E sc d 139 124 [x0, x1, x2, x3, some (.int v)] st g mi mr Q = tw_E sc d 139 126 [x0, x1, x2, x3, some (.int v)] (.int v :: st) g mi mr Q := tw_x_iload td_139_124 rfl
theorem td_139_126 : decode (tw_cd 139) 126 = .ok (.iload_n 2, 1) := by decide +kernel
theorem tz_139_126 : tw_E sc d 139 126 [x0, x1, some (.int v), x3, x4] st g mi mr Q = tw_E sc d 139 127 [x0, x1, some (.int v), x3, x4] (.int v :: st) g mi mr Q := tw_x_iload_n td_139_126 rfl
theorem td_139_127 : decode (tw_cd 139) 127 = .ok (.if_icmp .ge 19, 3) := by decide +kernel
theorem tz_139_127 : tw_E sc d 139 127 [x0, x1, x2, x3, x4] (.int w :: .int v :: st) g mi mr Q = if w ≤ v then tw_E sc d 139 146 [x0, x1, x2, x3, x4] st g mi mr Q else tw_E sc d 139 130 [x0, x1, x2, x3, x4] st g mi mr Q := tw_x_ic_ge td_139_127 (by decide)
theorem td_139_130 : decode (tw_cd 139) 130 = .ok (.aload_n 0, 1) := by decide +kernel
theorem tz_139_130 : tw_E sc d 139 130 [some (.ref a), x1, x2, x3, x4] st g mi mr Q = tw_E sc d 139 131 [some (.ref a), x1, x2, x3, x4] (.ref a :: st) g mi mr Q := tw_x_aload_n td_139_130 rfl
theorem td_139_131 : decode (tw_cd 139) 131 = .ok (.getfield 155, 3) := by decide +kernel
theorem tz_139_131 : tw_E sc d 139 131 [x0, x1, x2, x3, x4] (.ref a :: st) g mi mr Q = (tw_kd g a = 10 ∧ tw_E sc d 139 134 [x0, x1, x2, x3, x4] (.int (mi a 40) :: st) g mi mr Q) := tw_x_geti td_139_131 to_139 tf_10_155 (trf_10_40)
theorem td_139_134 : decode (tw_cd 139) 134 = .ok (.bipush (-9), 2) := by decide +kernel
theorem tz_139_134 : tw_E sc d 139 134 [x0, x1, x2, x3, x4] st g mi mr Q = tw_E sc d 139 136 [x0, x1, x2, x3, x4] (.int (-9) :: st) g mi mr Q := tw_x_bipush td_139_134 (by decide)
theorem td_139_136 : decode (tw_cd 139) 136 = .ok (.if_icmp .ne 10, 3) := by decide +kernel
theorem tz_139_136 : tw_E sc d 139 136 [x0, x1, x2, x3, x4] (.int w :: .int v :: st) g mi mr Q = if ¬ v = w then tw_E sc d 139 146 [x0, x1, x2, x3, x4] st g mi mr Q else tw_E sc d 139 139 [x0, x1, x2, x3, x4] st g mi mr Q := tw_x_ic_ne td_139_136 (by decide)
theorem td_139_139 : decode (tw_cd 139) 139 = .ok (.aload_n 0, 1) := by decide +kernel
theorem tz_139_139 : tw_E sc d 139 139 [some (.ref a), x1, x2, x3, x4] st g mi mr Q = tw_E sc d 139 140 [some (.ref a), x1, x2, x3, x4] (.ref a :: st) g mi mr Q := tw_x_aload_n td_139_139 rfl
theorem td_139_140 : decode (tw_cd 139) 140 = .ok (.getfield 103, 3) := by decide +kernel
theorem tz_139_140 : tw_E sc d 139 140 [x0, x1, x2, x3, x4] (.ref a :: st) g mi mr Q = (tw_kd g a = 10 ∧ tw_E sc d 139 143 [x0, x1, x2, x3, x4] (.int (mi a 31) :: st) g mi mr Q) := tw_x_geti td_139_140 to_139 tf_10_103 (trf_10_31)
theorem td_139_143 : decode (tw_cd 139) 143 = .ok (.goto 7, 3) := by decide +kernel
theorem tz_139_143 : tw_E sc d 139 143 [x0, x1, x2, x3, x4] st g mi mr Q = tw_E sc d 139 150 [x0, x1, x2, x3, x4] st g mi mr Q := tw_x_goto td_139_143 (by decide)
theorem td_139_146 : decode (tw_cd 139) 146 = .ok (.aload_n 0, 1) := by decide +kernel
theorem tz_139_146 : tw_E sc d 139 146 [some (.ref a), x1, x2, x3, x4] st g mi mr Q = tw_E sc d 139 147 [some (.ref a), x1, x2, x3, x4] (.ref a :: st) g mi mr Q := tw_x_aload_n td_139_146 rfl
theorem td_139_147 : decode (tw_cd 139) 147 = .ok (.getfield 155, 3) := by decide +kernel
theorem tz_139_147 : tw_E sc d 139 147 [x0, x1, x2, x3, x4] (.ref a :: st) g mi mr Q = (tw_kd g a = 10 ∧ tw_E sc d 139 150 [x0, x1, x2, x3, x4] (.int (mi a 40) :: st) g mi mr Q) := tw_x_geti td_139_147 to_139 tf_10_155 (trf_10_40)
theorem td_139_150 : decode (tw_cd 139) 150 = .ok (.putfield 155, 3) := by decide +kernel
theorem tz_139_150 : tw_E sc d 139 150 [x0, x1, x2, x3, x4] (.int v :: .ref a :: st) g mi mr Q = (tw_kd g a = 10 ∧ tw_E sc d 139 153 [x0, x1, x2, x3, x4] st g (tw_st mi a (tw_st (mi a) 40 v)) mr Q) := tw_x_puti td_139_150 to_139 tf_10_155 rfl rfl
theorem td_139_153 : decode (tw_cd 139) 153 = .ok (.aload_n 0, 1) := by decide +kernel
theorem tz_139_153 : tw_E sc d 139 153 [some (.ref a), x1, x2, x3, x4] st g mi mr Q = tw_E sc d 139 154 [some (.ref a), x1, x2, x3, x4] (.ref a :: st) g mi mr Q := tw_x_aload_n td_139_153 rfl
theorem td_139_154 : decode (tw_cd 139) 154 = .ok (.invokevirtual 141, 3) := by decide +kernel
theorem tz_139_154 : tw_E sc (d + 1) 139 154 [x0, x1, x2, x3, x4] ([.ref a]) g mi mr Q = (tw_kd g a = 10 ∧ tw_E sc d 131 0 [some (.ref a)] [] g mi mr (tw_K sc (d + 1) 139 157 [x0, x1, x2, x3, x4] [] Q)) := tw_x_cv (as := []) (r := []) td_139_154 to_139 tc_10_141 to_131 rfl rfl rfl rfl
theorem td_139_157 : decode (tw_cd 139) 157 = .ok (.aload_n 0, 1) := by decide +kernel
theorem tz_139_157 : tw_E sc d 139 157 [some (.ref a), x1, x2, x3, x4] st g mi mr Q = tw_E sc d 139 158 [some (.ref a), x1, x2, x3, x4] (.ref a :: st) g mi mr Q := tw_x_aload_n td_139_157 rfl
theorem td_139_158 : decode (tw_cd 139) 158 = .ok (.bipush 58, 2) := by decide +kernel
theorem tz_139_158 : tw_E sc d 139 158 [x0, x1, x2, x3, x4] st g mi mr Q = tw_E sc d 139 160 [x0, x1, x2, x3, x4] (.int 58 :: st) g mi mr Q := tw_x_bipush td_139_158 (by decide)
theorem td_139_160 : decode (tw_cd 139) 160 = .ok (.invokevirtual 135, 3) := by decide +kernel
theorem tz_139_160 {a0 : Int32} : tw_E sc (d + 1) 139 160 [x0, x1, x2, x3, x4] ([.int a0, .ref a]) g mi mr Q = (tw_kd g a = 10 ∧ tw_E sc d 132 0 [some (.ref a), some (.int a0)] [] g mi mr (tw_K sc (d + 1) 139 163 [x0, x1, x2, x3, x4] [] Q)) := tw_x_cv (as := [.int a0]) (r := []) td_139_160 to_139 tc_10_135 to_132 rfl rfl rfl rfl
theorem td_139_163 : decode (tw_cd 139) 163 = .ok (.ifCond .ne 8, 3) := by decide +kernel
theorem tz_139_163 : tw_E sc d 139 163 [x0, x1, x2, x3, x4] (.int v :: st) g mi mr Q = if ¬ v = 0 then tw_E sc d 139 171 [x0, x1, x2, x3, x4] st g mi mr Q else tw_E sc d 139 166 [x0, x1, x2, x3, x4] st g mi mr Q := tw_x_if_ne td_139_163 (by decide)
theorem td_139_166 : decode (tw_cd 139) 166 = .ok (.aload_n 0, 1) := by decide +kernel
theorem tz_139_166 : tw_E sc d 139 166 [some (.ref a), x1, x2, x3, x4] st g mi mr Q = tw_E sc d 139 167 [some (.ref a), x1, x2, x3, x4] (.ref a :: st) g mi mr Q := tw_x_aload_n td_139_166 rfl
theorem td_139_167 : decode (tw_cd 139) 167 = .ok (.invokevirtual 138, 3) := by decide +kernel
theorem tz_139_167 : tw_E sc (d + 1) 139 167 [x0, x1, x2, x3, x4] ([.ref a]) g mi mr Q = (tw_kd g a = 10 ∧ tw_E sc d 136 0 [some (.ref a)] [] g mi mr (tw_K sc (d + 1) 139 170 [x0, x1, x2, x3, x4] [] Q)) := tw_x_cv (as := []) (r := []) td_139_167 to_139 tc_10_138 to_136 rfl rfl rfl rfl
theorem td_139_170 : decode (tw_cd 139) 170 = .ok (.return_, 1) := by decide +kernel
theorem tz_139_170 : tw_E sc d 139 170 [x0, x1, x2, x3, x4] [] g mi mr Q = Q none g mi mr := tw_x_vret td_139_170 tr_139
theorem td_139_171 : decode (tw_cd 139) 171 = .ok (.aload_n 0, 1) := by decide +kernel
theorem tz_139_171 : tw_E sc d 139 171 [some (.ref a), x1, x2, x3, x4] st g mi mr Q = tw_E sc d 139 172 [some (.ref a), x1, x2, x3, x4] (.ref a :: st) g mi mr Q := tw_x_aload_n td_139_171 rfl
theorem td_139_172 : decode (tw_cd 139) 172 = .ok (.invokevirtual 141, 3) := by decide +kernel
theorem tz_139_172 : tw_E sc (d + 1) 139 172 [x0, x1, x2, x3, x4] ([.ref a]) g mi mr Q = (tw_kd g a = 10 ∧ tw_E sc d 131 0 [some (.ref a)] [] g mi mr (tw_K sc (d + 1) 139 175 [x0, x1, x2, x3, x4] [] Q)) := tw_x_cv (as := []) (r := []) td_139_172 to_139 tc_10_141 to_131 rfl rfl rfl rfl
theorem td_139_175 : decode (tw_cd 139) 175 = .ok (.aload_n 0, 1) := by decide +kernel
theorem tz_139_175 : tw_E sc d 139 175 [some (.ref a), x1, x2, x3, x4] st g mi mr Q = tw_E sc d 139 176 [some (.ref a), x1, x2, x3, x4] (.ref a :: st) g mi mr Q := tw_x_aload_n td_139_175 rfl
theorem td_139_176 : decode (tw_cd 139) 176 = .ok (.iconst 5, 1) := by decide +kernel
theorem tz_139_176 : tw_E sc d 139 176 [x0, x1, x2, x3, x4] st g mi mr Q = tw_E sc d 139 177 [x0, x1, x2, x3, x4] (.int 5 :: st) g mi mr Q := tw_x_iconst td_139_176 (by decide)
theorem td_139_177 : decode (tw_cd 139) 177 = .ok (.iload_n 1, 1) := by decide +kernel
theorem tz_139_177 : tw_E sc d 139 177 [x0, some (.int v), x2, x3, x4] st g mi mr Q = tw_E sc d 139 178 [x0, some (.int v), x2, x3, x4] (.int v :: st) g mi mr Q := tw_x_iload_n td_139_177 rfl
theorem td_139_178 : decode (tw_cd 139) 178 = .ok (.iload_n 2, 1) := by decide +kernel
theorem tz_139_178 : tw_E sc d 139 178 [x0, x1, some (.int v), x3, x4] st g mi mr Q = tw_E sc d 139 179 [x0, x1, some (.int v), x3, x4] (.int v :: st) g mi mr Q := tw_x_iload_n td_139_178 rfl
theorem td_139_179 : decode (tw_cd 139) 179 = .ok (.iload 4, 2) := by decide +kernel
theorem tz_139_179 : tw_E sc d 139 179 [x0, x1, x2, x3, some (.int v)] st g mi mr Q = tw_E sc d 139 181 [x0, x1, x2, x3, some (.int v)] (.int v :: st) g mi mr Q := tw_x_iload td_139_179 rfl
theorem td_139_181 : decode (tw_cd 139) 181 = .ok (.invokevirtual 144, 3) := by decide +kernel
theorem tz_139_181 {a0 : Int32} {a1 : Int32} {a2 : Int32} {a3 : Int32} : tw_E sc (d + 1) 139 181 [x0, x1, x2, x3, x4] ([.int a3, .int a2, .int a1, .int a0, .ref a]) g mi mr Q = (tw_kd g a = 10 ∧ tw_E sc d 134 0 [some (.ref a), some (.int a0), some (.int a1), some (.int a2), some (.int a3)] [] g mi mr (tw_K sc (d + 1) 139 184 [x0, x1, x2, x3, x4] [] Q)) := tw_x_cv (as := [.int a0, .int a1, .int a2, .int a3]) (r := []) td_139_181 to_139 tc_10_144 to_134 rfl rfl rfl rfl
theorem td_139_184 : decode (tw_cd 139) 184 = .ok (.return_, 1) := by decide +kernel
theorem tz_139_184 : tw_E sc d 139 184 [x0, x1, x2, x3, x4] [] g mi mr Q = Q none g mi mr := tw_x_vret td_139_184 tr_139
end tz_139
