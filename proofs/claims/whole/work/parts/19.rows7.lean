/-! a row for each instruction: printed by wip/whole/gen3.py -/
-- 148: Mo_nodeHolds
section tz_148
variable {sc : Nat × (Nat → Int32)} {d : Nat} {x0 x1 x2 x3 x4 : Option Value} {st : List Value} {g : tw_G} {mi : tw_I} {mr : tw_Q} {Q : Option Value → tw_G → tw_I → tw_Q → Prop} {v w u : Int32} {a b : Nat} {j h : Int64} {s1 s2 s3 s4 : Value}
theorem td_148_0 : decode (tw_cd 148) 0 = .ok (.aload_n 0, 1) := by decide +kernel
theorem tz_148_0 : tw_E sc d 148 0 [some (.ref a), x1, x2, x3, x4] st g mi mr Q = tw_E sc d 148 1 [some (.ref a), x1, x2, x3, x4] (.ref a :: st) g mi mr Q := tw_x_aload_n td_148_0 rfl
theorem td_148_1 : decode (tw_cd 148) 1 = .ok (.getfield 13, 3) := by decide +kernel
theorem tz_148_1 : tw_E sc d 148 1 [x0, x1, x2, x3, x4] (.ref a :: st) g mi mr Q = (tw_kd g a = 10 ∧ tw_E sc d 148 4 [x0, x1, x2, x3, x4] (va_rf (mr a 6) :: st) g mi mr Q) := tw_x_getr td_148_1 to_148 tf_10_13 (trf_10_6)
theorem td_148_4 : decode (tw_cd 148) 4 = .ok (.iload_n 1, 1) := by decide +kernel
theorem tz_148_4 : tw_E sc d 148 4 [x0, some (.int v), x2, x3, x4] st g mi mr Q = tw_E sc d 148 5 [x0, some (.int v), x2, x3, x4] (.int v :: st) g mi mr Q := tw_x_iload_n td_148_4 rfl
theorem td_148_5 : decode (tw_cd 148) 5 = .ok (.iaload, 1) := by decide +kernel
theorem tz_148_5 : tw_E sc d 148 5 [x0, x1, x2, x3, x4] (.int v :: .ref a :: st) g mi mr Q = ((tw_kd g a = 20 ∧ vp_in v (tw_ln g a)) ∧ tw_E sc d 148 6 [x0, x1, x2, x3, x4] (.int (mi a v.toNatClampNeg) :: st) g mi mr Q) := tw_x_iald td_148_5
theorem td_148_6 : decode (tw_cd 148) 6 = .ok (.tableswitch 295 0 5 #[38, 63, 143, 163, 197, 231], 38) := by decide +kernel
theorem tz_148_6 : tw_E sc d 148 6 [x0, x1, x2, x3, x4] (.int v :: st) g mi mr Q = tw_E sc d 148 (tw_sw v 0 [44, 69, 149, 169, 203, 237] 301) [x0, x1, x2, x3, x4] st g mi mr Q := tw_x_ts td_148_6 (by decide) (by decide) (by decide)
theorem td_148_44 : decode (tw_cd 148) 44 = .ok (.aload_n 0, 1) := by decide +kernel
theorem tz_148_44 : tw_E sc d 148 44 [some (.ref a), x1, x2, x3, x4] st g mi mr Q = tw_E sc d 148 45 [some (.ref a), x1, x2, x3, x4] (.ref a :: st) g mi mr Q := tw_x_aload_n td_148_44 rfl
theorem td_148_45 : decode (tw_cd 148) 45 = .ok (.getfield 53, 3) := by decide +kernel
theorem tz_148_45 : tw_E sc d 148 45 [x0, x1, x2, x3, x4] (.ref a :: st) g mi mr Q = (tw_kd g a = 10 ∧ tw_E sc d 148 48 [x0, x1, x2, x3, x4] (va_rf (mr a 21) :: st) g mi mr Q) := tw_x_getr td_148_45 to_148 tf_10_53 (trf_10_21)
theorem td_148_48 : decode (tw_cd 148) 48 = .ok (.iload_n 2, 1) := by decide +kernel
theorem tz_148_48 : tw_E sc d 148 48 [x0, x1, some (.int v), x3, x4] st g mi mr Q = tw_E sc d 148 49 [x0, x1, some (.int v), x3, x4] (.int v :: st) g mi mr Q := tw_x_iload_n td_148_48 rfl
theorem td_148_49 : decode (tw_cd 148) 49 = .ok (.iaload, 1) := by decide +kernel
theorem tz_148_49 : tw_E sc d 148 49 [x0, x1, x2, x3, x4] (.int v :: .ref a :: st) g mi mr Q = ((tw_kd g a = 20 ∧ vp_in v (tw_ln g a)) ∧ tw_E sc d 148 50 [x0, x1, x2, x3, x4] (.int (mi a v.toNatClampNeg) :: st) g mi mr Q) := tw_x_iald td_148_49
theorem td_148_50 : decode (tw_cd 148) 50 = .ok (.aload_n 0, 1) := by decide +kernel
theorem tz_148_50 : tw_E sc d 148 50 [some (.ref a), x1, x2, x3, x4] st g mi mr Q = tw_E sc d 148 51 [some (.ref a), x1, x2, x3, x4] (.ref a :: st) g mi mr Q := tw_x_aload_n td_148_50 rfl
theorem td_148_51 : decode (tw_cd 148) 51 = .ok (.getfield 16, 3) := by decide +kernel
theorem tz_148_51 : tw_E sc d 148 51 [x0, x1, x2, x3, x4] (.ref a :: st) g mi mr Q = (tw_kd g a = 10 ∧ tw_E sc d 148 54 [x0, x1, x2, x3, x4] (va_rf (mr a 7) :: st) g mi mr Q) := tw_x_getr td_148_51 to_148 tf_10_16 (trf_10_7)
theorem td_148_54 : decode (tw_cd 148) 54 = .ok (.iload_n 1, 1) := by decide +kernel
theorem tz_148_54 : tw_E sc d 148 54 [x0, some (.int v), x2, x3, x4] st g mi mr Q = tw_E sc d 148 55 [x0, some (.int v), x2, x3, x4] (.int v :: st) g mi mr Q := tw_x_iload_n td_148_54 rfl
theorem td_148_55 : decode (tw_cd 148) 55 = .ok (.iaload, 1) := by decide +kernel
theorem tz_148_55 : tw_E sc d 148 55 [x0, x1, x2, x3, x4] (.int v :: .ref a :: st) g mi mr Q = ((tw_kd g a = 20 ∧ vp_in v (tw_ln g a)) ∧ tw_E sc d 148 56 [x0, x1, x2, x3, x4] (.int (mi a v.toNatClampNeg) :: st) g mi mr Q) := tw_x_iald td_148_55
theorem td_148_56 : decode (tw_cd 148) 56 = .ok (.invokestatic 192, 3) := by decide +kernel
theorem tz_148_56 {a0 : Int32} {a1 : Int32} : tw_E sc (d + 1) 148 56 [x0, x1, x2, x3, x4] ([.int a1, .int a0]) g mi mr Q = tw_E sc d 146 0 [some (.int a0), some (.int a1)] [] g mi mr (tw_K sc (d + 1) 148 59 [x0, x1, x2, x3, x4] [] Q) := tw_x_cs (as := [.int a0, .int a1]) (r := []) td_148_56 to_148 tmn_10_192 tc_10_192 rfl rfl rfl rfl rfl
theorem td_148_59 : decode (tw_cd 148) 59 = .ok (.iconst 1, 1) := by decide +kernel
theorem tz_148_59 : tw_E sc d 148 59 [x0, x1, x2, x3, x4] st g mi mr Q = tw_E sc d 148 60 [x0, x1, x2, x3, x4] (.int 1 :: st) g mi mr Q := tw_x_iconst td_148_59 (by decide)
theorem td_148_60 : decode (tw_cd 148) 60 = .ok (.if_icmp .ne 7, 3) := by decide +kernel
theorem tz_148_60 : tw_E sc d 148 60 [x0, x1, x2, x3, x4] (.int w :: .int v :: st) g mi mr Q = if ¬ v = w then tw_E sc d 148 67 [x0, x1, x2, x3, x4] st g mi mr Q else tw_E sc d 148 63 [x0, x1, x2, x3, x4] st g mi mr Q := tw_x_ic_ne td_148_60 (by decide)
theorem td_148_63 : decode (tw_cd 148) 63 = .ok (.iconst 1, 1) := by decide +kernel
theorem tz_148_63 : tw_E sc d 148 63 [x0, x1, x2, x3, x4] st g mi mr Q = tw_E sc d 148 64 [x0, x1, x2, x3, x4] (.int 1 :: st) g mi mr Q := tw_x_iconst td_148_63 (by decide)
theorem td_148_64 : decode (tw_cd 148) 64 = .ok (.goto 4, 3) := by decide +kernel
theorem tz_148_64 : tw_E sc d 148 64 [x0, x1, x2, x3, x4] st g mi mr Q = tw_E sc d 148 68 [x0, x1, x2, x3, x4] st g mi mr Q := tw_x_goto td_148_64 (by decide)
theorem td_148_67 : decode (tw_cd 148) 67 = .ok (.iconst 0, 1) := by decide +kernel
theorem tz_148_67 : tw_E sc d 148 67 [x0, x1, x2, x3, x4] st g mi mr Q = tw_E sc d 148 68 [x0, x1, x2, x3, x4] (.int 0 :: st) g mi mr Q := tw_x_iconst td_148_67 (by decide)
theorem td_148_68 : decode (tw_cd 148) 68 = .ok (.ireturn, 1) := by decide +kernel
theorem tz_148_68 : tw_E sc d 148 68 [x0, x1, x2, x3, x4] ([.int v]) g mi mr Q = ((v = 0 ∨ v = 1) ∧ Q (some (.int v)) g mi mr) := tw_x_zret td_148_68 tr_148
theorem td_148_69 : decode (tw_cd 148) 69 = .ok (.iload_n 2, 1) := by decide +kernel
theorem tz_148_69 : tw_E sc d 148 69 [x0, x1, some (.int v), x3, x4] st g mi mr Q = tw_E sc d 148 70 [x0, x1, some (.int v), x3, x4] (.int v :: st) g mi mr Q := tw_x_iload_n td_148_69 rfl
theorem td_148_70 : decode (tw_cd 148) 70 = .ok (.ifCond .le 23, 3) := by decide +kernel
theorem tz_148_70 : tw_E sc d 148 70 [x0, x1, x2, x3, x4] (.int v :: st) g mi mr Q = if v ≤ 0 then tw_E sc d 148 93 [x0, x1, x2, x3, x4] st g mi mr Q else tw_E sc d 148 73 [x0, x1, x2, x3, x4] st g mi mr Q := tw_x_if_le td_148_70 (by decide)
theorem td_148_73 : decode (tw_cd 148) 73 = .ok (.aload_n 0, 1) := by decide +kernel
theorem tz_148_73 : tw_E sc d 148 73 [some (.ref a), x1, x2, x3, x4] st g mi mr Q = tw_E sc d 148 74 [some (.ref a), x1, x2, x3, x4] (.ref a :: st) g mi mr Q := tw_x_aload_n td_148_73 rfl
theorem td_148_74 : decode (tw_cd 148) 74 = .ok (.getfield 53, 3) := by decide +kernel
theorem tz_148_74 : tw_E sc d 148 74 [x0, x1, x2, x3, x4] (.ref a :: st) g mi mr Q = (tw_kd g a = 10 ∧ tw_E sc d 148 77 [x0, x1, x2, x3, x4] (va_rf (mr a 21) :: st) g mi mr Q) := tw_x_getr td_148_74 to_148 tf_10_53 (trf_10_21)
theorem td_148_77 : decode (tw_cd 148) 77 = .ok (.iload_n 2, 1) := by decide +kernel
theorem tz_148_77 : tw_E sc d 148 77 [x0, x1, some (.int v), x3, x4] st g mi mr Q = tw_E sc d 148 78 [x0, x1, some (.int v), x3, x4] (.int v :: st) g mi mr Q := tw_x_iload_n td_148_77 rfl
theorem td_148_78 : decode (tw_cd 148) 78 = .ok (.iconst 1, 1) := by decide +kernel
theorem tz_148_78 : tw_E sc d 148 78 [x0, x1, x2, x3, x4] st g mi mr Q = tw_E sc d 148 79 [x0, x1, x2, x3, x4] (.int 1 :: st) g mi mr Q := tw_x_iconst td_148_78 (by decide)
theorem td_148_79 : decode (tw_cd 148) 79 = .ok (.isub, 1) := by decide +kernel
theorem tz_148_79 : tw_E sc d 148 79 [x0, x1, x2, x3, x4] (.int w :: .int v :: st) g mi mr Q = tw_E sc d 148 80 [x0, x1, x2, x3, x4] (.int (v - w) :: st) g mi mr Q := tw_x_isub td_148_79
theorem td_148_80 : decode (tw_cd 148) 80 = .ok (.iaload, 1) := by decide +kernel
theorem tz_148_80 : tw_E sc d 148 80 [x0, x1, x2, x3, x4] (.int v :: .ref a :: st) g mi mr Q = ((tw_kd g a = 20 ∧ vp_in v (tw_ln g a)) ∧ tw_E sc d 148 81 [x0, x1, x2, x3, x4] (.int (mi a v.toNatClampNeg) :: st) g mi mr Q) := tw_x_iald td_148_80
theorem td_148_81 : decode (tw_cd 148) 81 = .ok (.aload_n 0, 1) := by decide +kernel
theorem tz_148_81 : tw_E sc d 148 81 [some (.ref a), x1, x2, x3, x4] st g mi mr Q = tw_E sc d 148 82 [some (.ref a), x1, x2, x3, x4] (.ref a :: st) g mi mr Q := tw_x_aload_n td_148_81 rfl
theorem td_148_82 : decode (tw_cd 148) 82 = .ok (.getfield 16, 3) := by decide +kernel
theorem tz_148_82 : tw_E sc d 148 82 [x0, x1, x2, x3, x4] (.ref a :: st) g mi mr Q = (tw_kd g a = 10 ∧ tw_E sc d 148 85 [x0, x1, x2, x3, x4] (va_rf (mr a 7) :: st) g mi mr Q) := tw_x_getr td_148_82 to_148 tf_10_16 (trf_10_7)
theorem td_148_85 : decode (tw_cd 148) 85 = .ok (.iload_n 1, 1) := by decide +kernel
theorem tz_148_85 : tw_E sc d 148 85 [x0, some (.int v), x2, x3, x4] st g mi mr Q = tw_E sc d 148 86 [x0, some (.int v), x2, x3, x4] (.int v :: st) g mi mr Q := tw_x_iload_n td_148_85 rfl
theorem td_148_86 : decode (tw_cd 148) 86 = .ok (.iaload, 1) := by decide +kernel
theorem tz_148_86 : tw_E sc d 148 86 [x0, x1, x2, x3, x4] (.int v :: .ref a :: st) g mi mr Q = ((tw_kd g a = 20 ∧ vp_in v (tw_ln g a)) ∧ tw_E sc d 148 87 [x0, x1, x2, x3, x4] (.int (mi a v.toNatClampNeg) :: st) g mi mr Q) := tw_x_iald td_148_86
theorem td_148_87 : decode (tw_cd 148) 87 = .ok (.invokestatic 192, 3) := by decide +kernel
theorem tz_148_87 {a0 : Int32} {a1 : Int32} : tw_E sc (d + 1) 148 87 [x0, x1, x2, x3, x4] ([.int a1, .int a0]) g mi mr Q = tw_E sc d 146 0 [some (.int a0), some (.int a1)] [] g mi mr (tw_K sc (d + 1) 148 90 [x0, x1, x2, x3, x4] [] Q) := tw_x_cs (as := [.int a0, .int a1]) (r := []) td_148_87 to_148 tmn_10_192 tc_10_192 rfl rfl rfl rfl rfl
theorem td_148_90 : decode (tw_cd 148) 90 = .ok (.goto 5, 3) := by decide +kernel
theorem tz_148_90 : tw_E sc d 148 90 [x0, x1, x2, x3, x4] st g mi mr Q = tw_E sc d 148 95 [x0, x1, x2, x3, x4] st g mi mr Q := tw_x_goto td_148_90 (by decide)
theorem td_148_93 : decode (tw_cd 148) 93 = .ok (.bipush (-9), 2) := by decide +kernel
theorem tz_148_93 : tw_E sc d 148 93 [x0, x1, x2, x3, x4] st g mi mr Q = tw_E sc d 148 95 [x0, x1, x2, x3, x4] (.int (-9) :: st) g mi mr Q := tw_x_bipush td_148_93 (by decide)
theorem td_148_95 : decode (tw_cd 148) 95 = .ok (.istore_n 3, 1) := by decide +kernel
theorem tz_148_95 : tw_E sc d 148 95 [x0, x1, x2, x3, x4] (.int v :: st) g mi mr Q = tw_E sc d 148 96 [x0, x1, x2, some (.int v), x4] st g mi mr Q := tw_x_istore_n td_148_95 tp_148 rfl
theorem td_148_96 : decode (tw_cd 148) 96 = .ok (.aload_n 0, 1) := by decide +kernel
theorem tz_148_96 : tw_E sc d 148 96 [some (.ref a), x1, x2, x3, x4] st g mi mr Q = tw_E sc d 148 97 [some (.ref a), x1, x2, x3, x4] (.ref a :: st) g mi mr Q := tw_x_aload_n td_148_96 rfl
theorem td_148_97 : decode (tw_cd 148) 97 = .ok (.getfield 53, 3) := by decide +kernel
theorem tz_148_97 : tw_E sc d 148 97 [x0, x1, x2, x3, x4] (.ref a :: st) g mi mr Q = (tw_kd g a = 10 ∧ tw_E sc d 148 100 [x0, x1, x2, x3, x4] (va_rf (mr a 21) :: st) g mi mr Q) := tw_x_getr td_148_97 to_148 tf_10_53 (trf_10_21)
theorem td_148_100 : decode (tw_cd 148) 100 = .ok (.iload_n 2, 1) := by decide +kernel
theorem tz_148_100 : tw_E sc d 148 100 [x0, x1, some (.int v), x3, x4] st g mi mr Q = tw_E sc d 148 101 [x0, x1, some (.int v), x3, x4] (.int v :: st) g mi mr Q := tw_x_iload_n td_148_100 rfl
theorem td_148_101 : decode (tw_cd 148) 101 = .ok (.iaload, 1) := by decide +kernel
theorem tz_148_101 : tw_E sc d 148 101 [x0, x1, x2, x3, x4] (.int v :: .ref a :: st) g mi mr Q = ((tw_kd g a = 20 ∧ vp_in v (tw_ln g a)) ∧ tw_E sc d 148 102 [x0, x1, x2, x3, x4] (.int (mi a v.toNatClampNeg) :: st) g mi mr Q) := tw_x_iald td_148_101
theorem td_148_102 : decode (tw_cd 148) 102 = .ok (.aload_n 0, 1) := by decide +kernel
theorem tz_148_102 : tw_E sc d 148 102 [some (.ref a), x1, x2, x3, x4] st g mi mr Q = tw_E sc d 148 103 [some (.ref a), x1, x2, x3, x4] (.ref a :: st) g mi mr Q := tw_x_aload_n td_148_102 rfl
theorem td_148_103 : decode (tw_cd 148) 103 = .ok (.getfield 16, 3) := by decide +kernel
theorem tz_148_103 : tw_E sc d 148 103 [x0, x1, x2, x3, x4] (.ref a :: st) g mi mr Q = (tw_kd g a = 10 ∧ tw_E sc d 148 106 [x0, x1, x2, x3, x4] (va_rf (mr a 7) :: st) g mi mr Q) := tw_x_getr td_148_103 to_148 tf_10_16 (trf_10_7)
theorem td_148_106 : decode (tw_cd 148) 106 = .ok (.iload_n 1, 1) := by decide +kernel
theorem tz_148_106 : tw_E sc d 148 106 [x0, some (.int v), x2, x3, x4] st g mi mr Q = tw_E sc d 148 107 [x0, some (.int v), x2, x3, x4] (.int v :: st) g mi mr Q := tw_x_iload_n td_148_106 rfl
theorem td_148_107 : decode (tw_cd 148) 107 = .ok (.iaload, 1) := by decide +kernel
theorem tz_148_107 : tw_E sc d 148 107 [x0, x1, x2, x3, x4] (.int v :: .ref a :: st) g mi mr Q = ((tw_kd g a = 20 ∧ vp_in v (tw_ln g a)) ∧ tw_E sc d 148 108 [x0, x1, x2, x3, x4] (.int (mi a v.toNatClampNeg) :: st) g mi mr Q) := tw_x_iald td_148_107
theorem td_148_108 : decode (tw_cd 148) 108 = .ok (.invokestatic 192, 3) := by decide +kernel
theorem tz_148_108 {a0 : Int32} {a1 : Int32} : tw_E sc (d + 1) 148 108 [x0, x1, x2, x3, x4] ([.int a1, .int a0]) g mi mr Q = tw_E sc d 146 0 [some (.int a0), some (.int a1)] [] g mi mr (tw_K sc (d + 1) 148 111 [x0, x1, x2, x3, x4] [] Q) := tw_x_cs (as := [.int a0, .int a1]) (r := []) td_148_108 to_148 tmn_10_192 tc_10_192 rfl rfl rfl rfl rfl
theorem td_148_111 : decode (tw_cd 148) 111 = .ok (.istore 4, 2) := by decide +kernel
theorem tz_148_111 : tw_E sc d 148 111 [x0, x1, x2, x3, x4] (.int v :: st) g mi mr Q = tw_E sc d 148 113 [x0, x1, x2, x3, some (.int v)] st g mi mr Q := tw_x_istore td_148_111 tp_148 rfl
theorem td_148_113 : decode (tw_cd 148) 113 = .ok (.iload_n 2, 1) := by decide +kernel
theorem tz_148_113 : tw_E sc d 148 113 [x0, x1, some (.int v), x3, x4] st g mi mr Q = tw_E sc d 148 114 [x0, x1, some (.int v), x3, x4] (.int v :: st) g mi mr Q := tw_x_iload_n td_148_113 rfl
theorem td_148_114 : decode (tw_cd 148) 114 = .ok (.ifCond .le 33, 3) := by decide +kernel
theorem tz_148_114 : tw_E sc d 148 114 [x0, x1, x2, x3, x4] (.int v :: st) g mi mr Q = if v ≤ 0 then tw_E sc d 148 147 [x0, x1, x2, x3, x4] st g mi mr Q else tw_E sc d 148 117 [x0, x1, x2, x3, x4] st g mi mr Q := tw_x_if_le td_148_114 (by decide)
theorem td_148_117 : decode (tw_cd 148) 117 = .ok (.iload_n 3, 1) := by decide +kernel
theorem tz_148_117 : tw_E sc d 148 117 [x0, x1, x2, some (.int v), x4] st g mi mr Q = tw_E sc d 148 118 [x0, x1, x2, some (.int v), x4] (.int v :: st) g mi mr Q := tw_x_iload_n td_148_117 rfl
theorem td_148_118 : decode (tw_cd 148) 118 = .ok (.iload 4, 2) := by decide +kernel
theorem tz_148_118 : tw_E sc d 148 118 [x0, x1, x2, x3, some (.int v)] st g mi mr Q = tw_E sc d 148 120 [x0, x1, x2, x3, some (.int v)] (.int v :: st) g mi mr Q := tw_x_iload td_148_118 rfl
theorem td_148_120 : decode (tw_cd 148) 120 = .ok (.if_icmp .eq 27, 3) := by decide +kernel
theorem tz_148_120 : tw_E sc d 148 120 [x0, x1, x2, x3, x4] (.int w :: .int v :: st) g mi mr Q = if v = w then tw_E sc d 148 147 [x0, x1, x2, x3, x4] st g mi mr Q else tw_E sc d 148 123 [x0, x1, x2, x3, x4] st g mi mr Q := tw_x_ic_eq td_148_120 (by decide)
theorem td_148_123 : decode (tw_cd 148) 123 = .ok (.aload_n 0, 1) := by decide +kernel
theorem tz_148_123 : tw_E sc d 148 123 [some (.ref a), x1, x2, x3, x4] st g mi mr Q = tw_E sc d 148 124 [some (.ref a), x1, x2, x3, x4] (.ref a :: st) g mi mr Q := tw_x_aload_n td_148_123 rfl
theorem td_148_124 : decode (tw_cd 148) 124 = .ok (.getfield 19, 3) := by decide +kernel
theorem tz_148_124 : tw_E sc d 148 124 [x0, x1, x2, x3, x4] (.ref a :: st) g mi mr Q = (tw_kd g a = 10 ∧ tw_E sc d 148 127 [x0, x1, x2, x3, x4] (va_rf (mr a 8) :: st) g mi mr Q) := tw_x_getr td_148_124 to_148 tf_10_19 (trf_10_8)
theorem td_148_127 : decode (tw_cd 148) 127 = .ok (.iload_n 1, 1) := by decide +kernel
theorem tz_148_127 : tw_E sc d 148 127 [x0, some (.int v), x2, x3, x4] st g mi mr Q = tw_E sc d 148 128 [x0, some (.int v), x2, x3, x4] (.int v :: st) g mi mr Q := tw_x_iload_n td_148_127 rfl
theorem td_148_128 : decode (tw_cd 148) 128 = .ok (.iaload, 1) := by decide +kernel
theorem tz_148_128 : tw_E sc d 148 128 [x0, x1, x2, x3, x4] (.int v :: .ref a :: st) g mi mr Q = ((tw_kd g a = 20 ∧ vp_in v (tw_ln g a)) ∧ tw_E sc d 148 129 [x0, x1, x2, x3, x4] (.int (mi a v.toNatClampNeg) :: st) g mi mr Q) := tw_x_iald td_148_128
theorem td_148_129 : decode (tw_cd 148) 129 = .ok (.iconst 2, 1) := by decide +kernel
theorem tz_148_129 : tw_E sc d 148 129 [x0, x1, x2, x3, x4] st g mi mr Q = tw_E sc d 148 130 [x0, x1, x2, x3, x4] (.int 2 :: st) g mi mr Q := tw_x_iconst td_148_129 (by decide)
theorem td_148_130 : decode (tw_cd 148) 130 = .ok (.if_icmp .eq 13, 3) := by decide +kernel
theorem tz_148_130 : tw_E sc d 148 130 [x0, x1, x2, x3, x4] (.int w :: .int v :: st) g mi mr Q = if v = w then tw_E sc d 148 143 [x0, x1, x2, x3, x4] st g mi mr Q else tw_E sc d 148 133 [x0, x1, x2, x3, x4] st g mi mr Q := tw_x_ic_eq td_148_130 (by decide)
theorem td_148_133 : decode (tw_cd 148) 133 = .ok (.aload_n 0, 1) := by decide +kernel
theorem tz_148_133 : tw_E sc d 148 133 [some (.ref a), x1, x2, x3, x4] st g mi mr Q = tw_E sc d 148 134 [some (.ref a), x1, x2, x3, x4] (.ref a :: st) g mi mr Q := tw_x_aload_n td_148_133 rfl
theorem td_148_134 : decode (tw_cd 148) 134 = .ok (.getfield 19, 3) := by decide +kernel
theorem tz_148_134 : tw_E sc d 148 134 [x0, x1, x2, x3, x4] (.ref a :: st) g mi mr Q = (tw_kd g a = 10 ∧ tw_E sc d 148 137 [x0, x1, x2, x3, x4] (va_rf (mr a 8) :: st) g mi mr Q) := tw_x_getr td_148_134 to_148 tf_10_19 (trf_10_8)
theorem td_148_137 : decode (tw_cd 148) 137 = .ok (.iload_n 1, 1) := by decide +kernel
theorem tz_148_137 : tw_E sc d 148 137 [x0, some (.int v), x2, x3, x4] st g mi mr Q = tw_E sc d 148 138 [x0, some (.int v), x2, x3, x4] (.int v :: st) g mi mr Q := tw_x_iload_n td_148_137 rfl
theorem td_148_138 : decode (tw_cd 148) 138 = .ok (.iaload, 1) := by decide +kernel
theorem tz_148_138 : tw_E sc d 148 138 [x0, x1, x2, x3, x4] (.int v :: .ref a :: st) g mi mr Q = ((tw_kd g a = 20 ∧ vp_in v (tw_ln g a)) ∧ tw_E sc d 148 139 [x0, x1, x2, x3, x4] (.int (mi a v.toNatClampNeg) :: st) g mi mr Q) := tw_x_iald td_148_138
theorem td_148_139 : decode (tw_cd 148) 139 = .ok (.iload_n 3, 1) := by decide +kernel
theorem tz_148_139 : tw_E sc d 148 139 [x0, x1, x2, some (.int v), x4] st g mi mr Q = tw_E sc d 148 140 [x0, x1, x2, some (.int v), x4] (.int v :: st) g mi mr Q := tw_x_iload_n td_148_139 rfl
theorem td_148_140 : decode (tw_cd 148) 140 = .ok (.if_icmp .ne 7, 3) := by decide +kernel
theorem tz_148_140 : tw_E sc d 148 140 [x0, x1, x2, x3, x4] (.int w :: .int v :: st) g mi mr Q = if ¬ v = w then tw_E sc d 148 147 [x0, x1, x2, x3, x4] st g mi mr Q else tw_E sc d 148 143 [x0, x1, x2, x3, x4] st g mi mr Q := tw_x_ic_ne td_148_140 (by decide)
theorem td_148_143 : decode (tw_cd 148) 143 = .ok (.iconst 1, 1) := by decide +kernel
theorem tz_148_143 : tw_E sc d 148 143 [x0, x1, x2, x3, x4] st g mi mr Q = tw_E sc d 148 144 [x0, x1, x2, x3, x4] (.int 1 :: st) g mi mr Q := tw_x_iconst td_148_143 (by decide)
theorem td_148_144 : decode (tw_cd 148) 144 = .ok (.goto 4, 3) := by decide +kernel
theorem tz_148_144 : tw_E sc d 148 144 [x0, x1, x2, x3, x4] st g mi mr Q = tw_E sc d 148 148 [x0, x1, x2, x3, x4] st g mi mr Q := tw_x_goto td_148_144 (by decide)
theorem td_148_147 : decode (tw_cd 148) 147 = .ok (.iconst 0, 1) := by decide +kernel
theorem tz_148_147 : tw_E sc d 148 147 [x0, x1, x2, x3, x4] st g mi mr Q = tw_E sc d 148 148 [x0, x1, x2, x3, x4] (.int 0 :: st) g mi mr Q := tw_x_iconst td_148_147 (by decide)
theorem td_148_148 : decode (tw_cd 148) 148 = .ok (.ireturn, 1) := by decide +kernel
theorem tz_148_148 : tw_E sc d 148 148 [x0, x1, x2, x3, x4] ([.int v]) g mi mr Q = ((v = 0 ∨ v = 1) ∧ Q (some (.int v)) g mi mr) := tw_x_zret td_148_148 tr_148
theorem td_148_149 : decode (tw_cd 148) 149 = .ok (.aload_n 0, 1) := by decide +kernel
theorem tz_148_149 : tw_E sc d 148 149 [some (.ref a), x1, x2, x3, x4] st g mi mr Q = tw_E sc d 148 150 [some (.ref a), x1, x2, x3, x4] (.ref a :: st) g mi mr Q := tw_x_aload_n td_148_149 rfl
theorem td_148_150 : decode (tw_cd 148) 150 = .ok (.getfield 43, 3) := by decide +kernel
theorem tz_148_150 : tw_E sc d 148 150 [x0, x1, x2, x3, x4] (.ref a :: st) g mi mr Q = (tw_kd g a = 10 ∧ tw_E sc d 148 153 [x0, x1, x2, x3, x4] (va_rf (mr a 17) :: st) g mi mr Q) := tw_x_getr td_148_150 to_148 tf_10_43 (trf_10_17)
theorem td_148_153 : decode (tw_cd 148) 153 = .ok (.aload_n 0, 1) := by decide +kernel
theorem tz_148_153 : tw_E sc d 148 153 [some (.ref a), x1, x2, x3, x4] st g mi mr Q = tw_E sc d 148 154 [some (.ref a), x1, x2, x3, x4] (.ref a :: st) g mi mr Q := tw_x_aload_n td_148_153 rfl
theorem td_148_154 : decode (tw_cd 148) 154 = .ok (.getfield 16, 3) := by decide +kernel
theorem tz_148_154 : tw_E sc d 148 154 [x0, x1, x2, x3, x4] (.ref a :: st) g mi mr Q = (tw_kd g a = 10 ∧ tw_E sc d 148 157 [x0, x1, x2, x3, x4] (va_rf (mr a 7) :: st) g mi mr Q) := tw_x_getr td_148_154 to_148 tf_10_16 (trf_10_7)
theorem td_148_157 : decode (tw_cd 148) 157 = .ok (.iload_n 1, 1) := by decide +kernel
theorem tz_148_157 : tw_E sc d 148 157 [x0, some (.int v), x2, x3, x4] st g mi mr Q = tw_E sc d 148 158 [x0, some (.int v), x2, x3, x4] (.int v :: st) g mi mr Q := tw_x_iload_n td_148_157 rfl
theorem td_148_158 : decode (tw_cd 148) 158 = .ok (.iaload, 1) := by decide +kernel
theorem tz_148_158 : tw_E sc d 148 158 [x0, x1, x2, x3, x4] (.int v :: .ref a :: st) g mi mr Q = ((tw_kd g a = 20 ∧ vp_in v (tw_ln g a)) ∧ tw_E sc d 148 159 [x0, x1, x2, x3, x4] (.int (mi a v.toNatClampNeg) :: st) g mi mr Q) := tw_x_iald td_148_158
theorem td_148_159 : decode (tw_cd 148) 159 = .ok (.baload, 1) := by decide +kernel
theorem tz_148_159 : tw_E sc d 148 159 [x0, x1, x2, x3, x4] (.int v :: .ref a :: st) g mi mr Q = ((tw_kd g a = 21 ∧ vp_in v (tw_ln g a)) ∧ tw_E sc d 148 160 [x0, x1, x2, x3, x4] (.int (mi a v.toNatClampNeg) :: st) g mi mr Q) := tw_x_zald td_148_159
theorem td_148_160 : decode (tw_cd 148) 160 = .ok (.ifCond .ne 7, 3) := by decide +kernel
theorem tz_148_160 : tw_E sc d 148 160 [x0, x1, x2, x3, x4] (.int v :: st) g mi mr Q = if ¬ v = 0 then tw_E sc d 148 167 [x0, x1, x2, x3, x4] st g mi mr Q else tw_E sc d 148 163 [x0, x1, x2, x3, x4] st g mi mr Q := tw_x_if_ne td_148_160 (by decide)
theorem td_148_163 : decode (tw_cd 148) 163 = .ok (.iconst 1, 1) := by decide +kernel
theorem tz_148_163 : tw_E sc d 148 163 [x0, x1, x2, x3, x4] st g mi mr Q = tw_E sc d 148 164 [x0, x1, x2, x3, x4] (.int 1 :: st) g mi mr Q := tw_x_iconst td_148_163 (by decide)
theorem td_148_164 : decode (tw_cd 148) 164 = .ok (.goto 4, 3) := by decide +kernel
theorem tz_148_164 : tw_E sc d 148 164 [x0, x1, x2, x3, x4] st g mi mr Q = tw_E sc d 148 168 [x0, x1, x2, x3, x4] st g mi mr Q := tw_x_goto td_148_164 (by decide)
theorem td_148_167 : decode (tw_cd 148) 167 = .ok (.iconst 0, 1) := by decide +kernel
theorem tz_148_167 : tw_E sc d 148 167 [x0, x1, x2, x3, x4] st g mi mr Q = tw_E sc d 148 168 [x0, x1, x2, x3, x4] (.int 0 :: st) g mi mr Q := tw_x_iconst td_148_167 (by decide)
theorem td_148_168 : decode (tw_cd 148) 168 = .ok (.ireturn, 1) := by decide +kernel
theorem tz_148_168 : tw_E sc d 148 168 [x0, x1, x2, x3, x4] ([.int v]) g mi mr Q = ((v = 0 ∨ v = 1) ∧ Q (some (.int v)) g mi mr) := tw_x_zret td_148_168 tr_148
theorem td_148_169 : decode (tw_cd 148) 169 = .ok (.aload_n 0, 1) := by decide +kernel
theorem tz_148_169 : tw_E sc d 148 169 [some (.ref a), x1, x2, x3, x4] st g mi mr Q = tw_E sc d 148 170 [some (.ref a), x1, x2, x3, x4] (.ref a :: st) g mi mr Q := tw_x_aload_n td_148_169 rfl
theorem td_148_170 : decode (tw_cd 148) 170 = .ok (.getfield 43, 3) := by decide +kernel
theorem tz_148_170 : tw_E sc d 148 170 [x0, x1, x2, x3, x4] (.ref a :: st) g mi mr Q = (tw_kd g a = 10 ∧ tw_E sc d 148 173 [x0, x1, x2, x3, x4] (va_rf (mr a 17) :: st) g mi mr Q) := tw_x_getr td_148_170 to_148 tf_10_43 (trf_10_17)
theorem td_148_173 : decode (tw_cd 148) 173 = .ok (.aload_n 0, 1) := by decide +kernel
theorem tz_148_173 : tw_E sc d 148 173 [some (.ref a), x1, x2, x3, x4] st g mi mr Q = tw_E sc d 148 174 [some (.ref a), x1, x2, x3, x4] (.ref a :: st) g mi mr Q := tw_x_aload_n td_148_173 rfl
theorem td_148_174 : decode (tw_cd 148) 174 = .ok (.getfield 16, 3) := by decide +kernel
theorem tz_148_174 : tw_E sc d 148 174 [x0, x1, x2, x3, x4] (.ref a :: st) g mi mr Q = (tw_kd g a = 10 ∧ tw_E sc d 148 177 [x0, x1, x2, x3, x4] (va_rf (mr a 7) :: st) g mi mr Q) := tw_x_getr td_148_174 to_148 tf_10_16 (trf_10_7)
theorem td_148_177 : decode (tw_cd 148) 177 = .ok (.iload_n 1, 1) := by decide +kernel
theorem tz_148_177 : tw_E sc d 148 177 [x0, some (.int v), x2, x3, x4] st g mi mr Q = tw_E sc d 148 178 [x0, some (.int v), x2, x3, x4] (.int v :: st) g mi mr Q := tw_x_iload_n td_148_177 rfl
theorem td_148_178 : decode (tw_cd 148) 178 = .ok (.iaload, 1) := by decide +kernel
theorem tz_148_178 : tw_E sc d 148 178 [x0, x1, x2, x3, x4] (.int v :: .ref a :: st) g mi mr Q = ((tw_kd g a = 20 ∧ vp_in v (tw_ln g a)) ∧ tw_E sc d 148 179 [x0, x1, x2, x3, x4] (.int (mi a v.toNatClampNeg) :: st) g mi mr Q) := tw_x_iald td_148_178
theorem td_148_179 : decode (tw_cd 148) 179 = .ok (.baload, 1) := by decide +kernel
theorem tz_148_179 : tw_E sc d 148 179 [x0, x1, x2, x3, x4] (.int v :: .ref a :: st) g mi mr Q = ((tw_kd g a = 21 ∧ vp_in v (tw_ln g a)) ∧ tw_E sc d 148 180 [x0, x1, x2, x3, x4] (.int (mi a v.toNatClampNeg) :: st) g mi mr Q) := tw_x_zald td_148_179
theorem td_148_180 : decode (tw_cd 148) 180 = .ok (.ifCond .eq 21, 3) := by decide +kernel
theorem tz_148_180 : tw_E sc d 148 180 [x0, x1, x2, x3, x4] (.int v :: st) g mi mr Q = if v = 0 then tw_E sc d 148 201 [x0, x1, x2, x3, x4] st g mi mr Q else tw_E sc d 148 183 [x0, x1, x2, x3, x4] st g mi mr Q := tw_x_if_eq td_148_180 (by decide)
theorem td_148_183 : decode (tw_cd 148) 183 = .ok (.aload_n 0, 1) := by decide +kernel
theorem tz_148_183 : tw_E sc d 148 183 [some (.ref a), x1, x2, x3, x4] st g mi mr Q = tw_E sc d 148 184 [some (.ref a), x1, x2, x3, x4] (.ref a :: st) g mi mr Q := tw_x_aload_n td_148_183 rfl
theorem td_148_184 : decode (tw_cd 148) 184 = .ok (.getfield 43, 3) := by decide +kernel
theorem tz_148_184 : tw_E sc d 148 184 [x0, x1, x2, x3, x4] (.ref a :: st) g mi mr Q = (tw_kd g a = 10 ∧ tw_E sc d 148 187 [x0, x1, x2, x3, x4] (va_rf (mr a 17) :: st) g mi mr Q) := tw_x_getr td_148_184 to_148 tf_10_43 (trf_10_17)
theorem td_148_187 : decode (tw_cd 148) 187 = .ok (.aload_n 0, 1) := by decide +kernel
theorem tz_148_187 : tw_E sc d 148 187 [some (.ref a), x1, x2, x3, x4] st g mi mr Q = tw_E sc d 148 188 [some (.ref a), x1, x2, x3, x4] (.ref a :: st) g mi mr Q := tw_x_aload_n td_148_187 rfl
theorem td_148_188 : decode (tw_cd 148) 188 = .ok (.getfield 19, 3) := by decide +kernel
theorem tz_148_188 : tw_E sc d 148 188 [x0, x1, x2, x3, x4] (.ref a :: st) g mi mr Q = (tw_kd g a = 10 ∧ tw_E sc d 148 191 [x0, x1, x2, x3, x4] (va_rf (mr a 8) :: st) g mi mr Q) := tw_x_getr td_148_188 to_148 tf_10_19 (trf_10_8)
theorem td_148_191 : decode (tw_cd 148) 191 = .ok (.iload_n 1, 1) := by decide +kernel
theorem tz_148_191 : tw_E sc d 148 191 [x0, some (.int v), x2, x3, x4] st g mi mr Q = tw_E sc d 148 192 [x0, some (.int v), x2, x3, x4] (.int v :: st) g mi mr Q := tw_x_iload_n td_148_191 rfl
theorem td_148_192 : decode (tw_cd 148) 192 = .ok (.iaload, 1) := by decide +kernel
theorem tz_148_192 : tw_E sc d 148 192 [x0, x1, x2, x3, x4] (.int v :: .ref a :: st) g mi mr Q = ((tw_kd g a = 20 ∧ vp_in v (tw_ln g a)) ∧ tw_E sc d 148 193 [x0, x1, x2, x3, x4] (.int (mi a v.toNatClampNeg) :: st) g mi mr Q) := tw_x_iald td_148_192
theorem td_148_193 : decode (tw_cd 148) 193 = .ok (.baload, 1) := by decide +kernel
theorem tz_148_193 : tw_E sc d 148 193 [x0, x1, x2, x3, x4] (.int v :: .ref a :: st) g mi mr Q = ((tw_kd g a = 21 ∧ vp_in v (tw_ln g a)) ∧ tw_E sc d 148 194 [x0, x1, x2, x3, x4] (.int (mi a v.toNatClampNeg) :: st) g mi mr Q) := tw_x_zald td_148_193
theorem td_148_194 : decode (tw_cd 148) 194 = .ok (.ifCond .eq 7, 3) := by decide +kernel
theorem tz_148_194 : tw_E sc d 148 194 [x0, x1, x2, x3, x4] (.int v :: st) g mi mr Q = if v = 0 then tw_E sc d 148 201 [x0, x1, x2, x3, x4] st g mi mr Q else tw_E sc d 148 197 [x0, x1, x2, x3, x4] st g mi mr Q := tw_x_if_eq td_148_194 (by decide)
theorem td_148_197 : decode (tw_cd 148) 197 = .ok (.iconst 1, 1) := by decide +kernel
theorem tz_148_197 : tw_E sc d 148 197 [x0, x1, x2, x3, x4] st g mi mr Q = tw_E sc d 148 198 [x0, x1, x2, x3, x4] (.int 1 :: st) g mi mr Q := tw_x_iconst td_148_197 (by decide)
theorem td_148_198 : decode (tw_cd 148) 198 = .ok (.goto 4, 3) := by decide +kernel
theorem tz_148_198 : tw_E sc d 148 198 [x0, x1, x2, x3, x4] st g mi mr Q = tw_E sc d 148 202 [x0, x1, x2, x3, x4] st g mi mr Q := tw_x_goto td_148_198 (by decide)
theorem td_148_201 : decode (tw_cd 148) 201 = .ok (.iconst 0, 1) := by decide +kernel
theorem tz_148_201 : tw_E sc d 148 201 [x0, x1, x2, x3, x4] st g mi mr Q = tw_E sc d 148 202 [x0, x1, x2, x3, x4] (.int 0 :: st) g mi mr Q := tw_x_iconst td_148_201 (by decide)
theorem td_148_202 : decode (tw_cd 148) 202 = .ok (.ireturn, 1) := by decide +kernel
theorem tz_148_202 : tw_E sc d 148 202 [x0, x1, x2, x3, x4] ([.int v]) g mi mr Q = ((v = 0 ∨ v = 1) ∧ Q (some (.int v)) g mi mr) := tw_x_zret td_148_202 tr_148
theorem td_148_203 : decode (tw_cd 148) 203 = .ok (.aload_n 0, 1) := by decide +kernel
theorem tz_148_203 : tw_E sc d 148 203 [some (.ref a), x1, x2, x3, x4] st g mi mr Q = tw_E sc d 148 204 [some (.ref a), x1, x2, x3, x4] (.ref a :: st) g mi mr Q := tw_x_aload_n td_148_203 rfl
theorem td_148_204 : decode (tw_cd 148) 204 = .ok (.getfield 43, 3) := by decide +kernel
theorem tz_148_204 : tw_E sc d 148 204 [x0, x1, x2, x3, x4] (.ref a :: st) g mi mr Q = (tw_kd g a = 10 ∧ tw_E sc d 148 207 [x0, x1, x2, x3, x4] (va_rf (mr a 17) :: st) g mi mr Q) := tw_x_getr td_148_204 to_148 tf_10_43 (trf_10_17)
theorem td_148_207 : decode (tw_cd 148) 207 = .ok (.aload_n 0, 1) := by decide +kernel
theorem tz_148_207 : tw_E sc d 148 207 [some (.ref a), x1, x2, x3, x4] st g mi mr Q = tw_E sc d 148 208 [some (.ref a), x1, x2, x3, x4] (.ref a :: st) g mi mr Q := tw_x_aload_n td_148_207 rfl
theorem td_148_208 : decode (tw_cd 148) 208 = .ok (.getfield 16, 3) := by decide +kernel
theorem tz_148_208 : tw_E sc d 148 208 [x0, x1, x2, x3, x4] (.ref a :: st) g mi mr Q = (tw_kd g a = 10 ∧ tw_E sc d 148 211 [x0, x1, x2, x3, x4] (va_rf (mr a 7) :: st) g mi mr Q) := tw_x_getr td_148_208 to_148 tf_10_16 (trf_10_7)
theorem td_148_211 : decode (tw_cd 148) 211 = .ok (.iload_n 1, 1) := by decide +kernel
theorem tz_148_211 : tw_E sc d 148 211 [x0, some (.int v), x2, x3, x4] st g mi mr Q = tw_E sc d 148 212 [x0, some (.int v), x2, x3, x4] (.int v :: st) g mi mr Q := tw_x_iload_n td_148_211 rfl
theorem td_148_212 : decode (tw_cd 148) 212 = .ok (.iaload, 1) := by decide +kernel
theorem tz_148_212 : tw_E sc d 148 212 [x0, x1, x2, x3, x4] (.int v :: .ref a :: st) g mi mr Q = ((tw_kd g a = 20 ∧ vp_in v (tw_ln g a)) ∧ tw_E sc d 148 213 [x0, x1, x2, x3, x4] (.int (mi a v.toNatClampNeg) :: st) g mi mr Q) := tw_x_iald td_148_212
theorem td_148_213 : decode (tw_cd 148) 213 = .ok (.baload, 1) := by decide +kernel
theorem tz_148_213 : tw_E sc d 148 213 [x0, x1, x2, x3, x4] (.int v :: .ref a :: st) g mi mr Q = ((tw_kd g a = 21 ∧ vp_in v (tw_ln g a)) ∧ tw_E sc d 148 214 [x0, x1, x2, x3, x4] (.int (mi a v.toNatClampNeg) :: st) g mi mr Q) := tw_x_zald td_148_213
theorem td_148_214 : decode (tw_cd 148) 214 = .ok (.ifCond .ne 17, 3) := by decide +kernel
theorem tz_148_214 : tw_E sc d 148 214 [x0, x1, x2, x3, x4] (.int v :: st) g mi mr Q = if ¬ v = 0 then tw_E sc d 148 231 [x0, x1, x2, x3, x4] st g mi mr Q else tw_E sc d 148 217 [x0, x1, x2, x3, x4] st g mi mr Q := tw_x_if_ne td_148_214 (by decide)
theorem td_148_217 : decode (tw_cd 148) 217 = .ok (.aload_n 0, 1) := by decide +kernel
theorem tz_148_217 : tw_E sc d 148 217 [some (.ref a), x1, x2, x3, x4] st g mi mr Q = tw_E sc d 148 218 [some (.ref a), x1, x2, x3, x4] (.ref a :: st) g mi mr Q := tw_x_aload_n td_148_217 rfl
theorem td_148_218 : decode (tw_cd 148) 218 = .ok (.getfield 43, 3) := by decide +kernel
theorem tz_148_218 : tw_E sc d 148 218 [x0, x1, x2, x3, x4] (.ref a :: st) g mi mr Q = (tw_kd g a = 10 ∧ tw_E sc d 148 221 [x0, x1, x2, x3, x4] (va_rf (mr a 17) :: st) g mi mr Q) := tw_x_getr td_148_218 to_148 tf_10_43 (trf_10_17)
theorem td_148_221 : decode (tw_cd 148) 221 = .ok (.aload_n 0, 1) := by decide +kernel
theorem tz_148_221 : tw_E sc d 148 221 [some (.ref a), x1, x2, x3, x4] st g mi mr Q = tw_E sc d 148 222 [some (.ref a), x1, x2, x3, x4] (.ref a :: st) g mi mr Q := tw_x_aload_n td_148_221 rfl
theorem td_148_222 : decode (tw_cd 148) 222 = .ok (.getfield 19, 3) := by decide +kernel
theorem tz_148_222 : tw_E sc d 148 222 [x0, x1, x2, x3, x4] (.ref a :: st) g mi mr Q = (tw_kd g a = 10 ∧ tw_E sc d 148 225 [x0, x1, x2, x3, x4] (va_rf (mr a 8) :: st) g mi mr Q) := tw_x_getr td_148_222 to_148 tf_10_19 (trf_10_8)
theorem td_148_225 : decode (tw_cd 148) 225 = .ok (.iload_n 1, 1) := by decide +kernel
theorem tz_148_225 : tw_E sc d 148 225 [x0, some (.int v), x2, x3, x4] st g mi mr Q = tw_E sc d 148 226 [x0, some (.int v), x2, x3, x4] (.int v :: st) g mi mr Q := tw_x_iload_n td_148_225 rfl
theorem td_148_226 : decode (tw_cd 148) 226 = .ok (.iaload, 1) := by decide +kernel
theorem tz_148_226 : tw_E sc d 148 226 [x0, x1, x2, x3, x4] (.int v :: .ref a :: st) g mi mr Q = ((tw_kd g a = 20 ∧ vp_in v (tw_ln g a)) ∧ tw_E sc d 148 227 [x0, x1, x2, x3, x4] (.int (mi a v.toNatClampNeg) :: st) g mi mr Q) := tw_x_iald td_148_226
theorem td_148_227 : decode (tw_cd 148) 227 = .ok (.baload, 1) := by decide +kernel
theorem tz_148_227 : tw_E sc d 148 227 [x0, x1, x2, x3, x4] (.int v :: .ref a :: st) g mi mr Q = ((tw_kd g a = 21 ∧ vp_in v (tw_ln g a)) ∧ tw_E sc d 148 228 [x0, x1, x2, x3, x4] (.int (mi a v.toNatClampNeg) :: st) g mi mr Q) := tw_x_zald td_148_227
theorem td_148_228 : decode (tw_cd 148) 228 = .ok (.ifCond .eq 7, 3) := by decide +kernel
theorem tz_148_228 : tw_E sc d 148 228 [x0, x1, x2, x3, x4] (.int v :: st) g mi mr Q = if v = 0 then tw_E sc d 148 235 [x0, x1, x2, x3, x4] st g mi mr Q else tw_E sc d 148 231 [x0, x1, x2, x3, x4] st g mi mr Q := tw_x_if_eq td_148_228 (by decide)
theorem td_148_231 : decode (tw_cd 148) 231 = .ok (.iconst 1, 1) := by decide +kernel
theorem tz_148_231 : tw_E sc d 148 231 [x0, x1, x2, x3, x4] st g mi mr Q = tw_E sc d 148 232 [x0, x1, x2, x3, x4] (.int 1 :: st) g mi mr Q := tw_x_iconst td_148_231 (by decide)
theorem td_148_232 : decode (tw_cd 148) 232 = .ok (.goto 4, 3) := by decide +kernel
theorem tz_148_232 : tw_E sc d 148 232 [x0, x1, x2, x3, x4] st g mi mr Q = tw_E sc d 148 236 [x0, x1, x2, x3, x4] st g mi mr Q := tw_x_goto td_148_232 (by decide)
theorem td_148_235 : decode (tw_cd 148) 235 = .ok (.iconst 0, 1) := by decide +kernel
theorem tz_148_235 : tw_E sc d 148 235 [x0, x1, x2, x3, x4] st g mi mr Q = tw_E sc d 148 236 [x0, x1, x2, x3, x4] (.int 0 :: st) g mi mr Q := tw_x_iconst td_148_235 (by decide)
theorem td_148_236 : decode (tw_cd 148) 236 = .ok (.ireturn, 1) := by decide +kernel
theorem tz_148_236 : tw_E sc d 148 236 [x0, x1, x2, x3, x4] ([.int v]) g mi mr Q = ((v = 0 ∨ v = 1) ∧ Q (some (.int v)) g mi mr) := tw_x_zret td_148_236 tr_148
theorem td_148_237 : decode (tw_cd 148) 237 = .ok (.aload_n 0, 1) := by decide +kernel
theorem tz_148_237 : tw_E sc d 148 237 [some (.ref a), x1, x2, x3, x4] st g mi mr Q = tw_E sc d 148 238 [some (.ref a), x1, x2, x3, x4] (.ref a :: st) g mi mr Q := tw_x_aload_n td_148_237 rfl
theorem td_148_238 : decode (tw_cd 148) 238 = .ok (.getfield 47, 3) := by decide +kernel
theorem tz_148_238 : tw_E sc d 148 238 [x0, x1, x2, x3, x4] (.ref a :: st) g mi mr Q = (tw_kd g a = 10 ∧ tw_E sc d 148 241 [x0, x1, x2, x3, x4] (va_rf (mr a 18) :: st) g mi mr Q) := tw_x_getr td_148_238 to_148 tf_10_47 (trf_10_18)
theorem td_148_241 : decode (tw_cd 148) 241 = .ok (.iload_n 1, 1) := by decide +kernel
theorem tz_148_241 : tw_E sc d 148 241 [x0, some (.int v), x2, x3, x4] st g mi mr Q = tw_E sc d 148 242 [x0, some (.int v), x2, x3, x4] (.int v :: st) g mi mr Q := tw_x_iload_n td_148_241 rfl
theorem td_148_242 : decode (tw_cd 148) 242 = .ok (.dup2, 1) := by decide +kernel
theorem tz_148_242 : tw_E sc d 148 242 [x0, x1, x2, x3, x4] (.int v :: .ref a :: st) g mi mr Q = tw_E sc d 148 243 [x0, x1, x2, x3, x4] (.int v :: .ref a :: .int v :: .ref a :: st) g mi mr Q := tw_x_dup2_ir td_148_242
theorem td_148_243 : decode (tw_cd 148) 243 = .ok (.iaload, 1) := by decide +kernel
theorem tz_148_243 : tw_E sc d 148 243 [x0, x1, x2, x3, x4] (.int v :: .ref a :: st) g mi mr Q = ((tw_kd g a = 20 ∧ vp_in v (tw_ln g a)) ∧ tw_E sc d 148 244 [x0, x1, x2, x3, x4] (.int (mi a v.toNatClampNeg) :: st) g mi mr Q) := tw_x_iald td_148_243
theorem td_148_244 : decode (tw_cd 148) 244 = .ok (.aload_n 0, 1) := by decide +kernel
theorem tz_148_244 : tw_E sc d 148 244 [some (.ref a), x1, x2, x3, x4] st g mi mr Q = tw_E sc d 148 245 [some (.ref a), x1, x2, x3, x4] (.ref a :: st) g mi mr Q := tw_x_aload_n td_148_244 rfl
theorem td_148_245 : decode (tw_cd 148) 245 = .ok (.getfield 43, 3) := by decide +kernel
theorem tz_148_245 : tw_E sc d 148 245 [x0, x1, x2, x3, x4] (.ref a :: st) g mi mr Q = (tw_kd g a = 10 ∧ tw_E sc d 148 248 [x0, x1, x2, x3, x4] (va_rf (mr a 17) :: st) g mi mr Q) := tw_x_getr td_148_245 to_148 tf_10_43 (trf_10_17)
theorem td_148_248 : decode (tw_cd 148) 248 = .ok (.aload_n 0, 1) := by decide +kernel
theorem tz_148_248 : tw_E sc d 148 248 [some (.ref a), x1, x2, x3, x4] st g mi mr Q = tw_E sc d 148 249 [some (.ref a), x1, x2, x3, x4] (.ref a :: st) g mi mr Q := tw_x_aload_n td_148_248 rfl
theorem td_148_249 : decode (tw_cd 148) 249 = .ok (.getfield 16, 3) := by decide +kernel
theorem tz_148_249 : tw_E sc d 148 249 [x0, x1, x2, x3, x4] (.ref a :: st) g mi mr Q = (tw_kd g a = 10 ∧ tw_E sc d 148 252 [x0, x1, x2, x3, x4] (va_rf (mr a 7) :: st) g mi mr Q) := tw_x_getr td_148_249 to_148 tf_10_16 (trf_10_7)
theorem td_148_252 : decode (tw_cd 148) 252 = .ok (.iload_n 1, 1) := by decide +kernel
theorem tz_148_252 : tw_E sc d 148 252 [x0, some (.int v), x2, x3, x4] st g mi mr Q = tw_E sc d 148 253 [x0, some (.int v), x2, x3, x4] (.int v :: st) g mi mr Q := tw_x_iload_n td_148_252 rfl
theorem td_148_253 : decode (tw_cd 148) 253 = .ok (.iaload, 1) := by decide +kernel
theorem tz_148_253 : tw_E sc d 148 253 [x0, x1, x2, x3, x4] (.int v :: .ref a :: st) g mi mr Q = ((tw_kd g a = 20 ∧ vp_in v (tw_ln g a)) ∧ tw_E sc d 148 254 [x0, x1, x2, x3, x4] (.int (mi a v.toNatClampNeg) :: st) g mi mr Q) := tw_x_iald td_148_253
theorem td_148_254 : decode (tw_cd 148) 254 = .ok (.baload, 1) := by decide +kernel
theorem tz_148_254 : tw_E sc d 148 254 [x0, x1, x2, x3, x4] (.int v :: .ref a :: st) g mi mr Q = ((tw_kd g a = 21 ∧ vp_in v (tw_ln g a)) ∧ tw_E sc d 148 255 [x0, x1, x2, x3, x4] (.int (mi a v.toNatClampNeg) :: st) g mi mr Q) := tw_x_zald td_148_254
theorem td_148_255 : decode (tw_cd 148) 255 = .ok (.ifCond .eq 7, 3) := by decide +kernel
theorem tz_148_255 : tw_E sc d 148 255 [x0, x1, x2, x3, x4] (.int v :: st) g mi mr Q = if v = 0 then tw_E sc d 148 262 [x0, x1, x2, x3, x4] st g mi mr Q else tw_E sc d 148 258 [x0, x1, x2, x3, x4] st g mi mr Q := tw_x_if_eq td_148_255 (by decide)
theorem td_148_258 : decode (tw_cd 148) 258 = .ok (.iconst 1, 1) := by decide +kernel
theorem tz_148_258 : tw_E sc d 148 258 [x0, x1, x2, x3, x4] st g mi mr Q = tw_E sc d 148 259 [x0, x1, x2, x3, x4] (.int 1 :: st) g mi mr Q := tw_x_iconst td_148_258 (by decide)
theorem td_148_259 : decode (tw_cd 148) 259 = .ok (.goto 4, 3) := by decide +kernel
theorem tz_148_259 : tw_E sc d 148 259 [x0, x1, x2, x3, x4] st g mi mr Q = tw_E sc d 148 263 [x0, x1, x2, x3, x4] st g mi mr Q := tw_x_goto td_148_259 (by decide)
theorem td_148_262 : decode (tw_cd 148) 262 = .ok (.iconst 0, 1) := by decide +kernel
theorem tz_148_262 : tw_E sc d 148 262 [x0, x1, x2, x3, x4] st g mi mr Q = tw_E sc d 148 263 [x0, x1, x2, x3, x4] (.int 0 :: st) g mi mr Q := tw_x_iconst td_148_262 (by decide)
theorem td_148_263 : decode (tw_cd 148) 263 = .ok (.iadd, 1) := by decide +kernel
theorem tz_148_263 : tw_E sc d 148 263 [x0, x1, x2, x3, x4] (.int w :: .int v :: st) g mi mr Q = tw_E sc d 148 264 [x0, x1, x2, x3, x4] (.int (v + w) :: st) g mi mr Q := tw_x_iadd td_148_263
theorem td_148_264 : decode (tw_cd 148) 264 = .ok (.iastore, 1) := by decide +kernel
theorem tz_148_264 : tw_E sc d 148 264 [x0, x1, x2, x3, x4] (.int w :: .int v :: .ref a :: st) g mi mr Q = ((tw_kd g a = 20 ∧ vp_in v (tw_ln g a)) ∧ tw_E sc d 148 265 [x0, x1, x2, x3, x4] st g (tw_st mi a (tw_st (mi a) v.toNatClampNeg w)) mr Q) := tw_x_iast td_148_264
theorem td_148_265 : decode (tw_cd 148) 265 = .ok (.aload_n 0, 1) := by decide +kernel
theorem tz_148_265 : tw_E sc d 148 265 [some (.ref a), x1, x2, x3, x4] st g mi mr Q = tw_E sc d 148 266 [some (.ref a), x1, x2, x3, x4] (.ref a :: st) g mi mr Q := tw_x_aload_n td_148_265 rfl
theorem td_148_266 : decode (tw_cd 148) 266 = .ok (.getfield 43, 3) := by decide +kernel
theorem tz_148_266 : tw_E sc d 148 266 [x0, x1, x2, x3, x4] (.ref a :: st) g mi mr Q = (tw_kd g a = 10 ∧ tw_E sc d 148 269 [x0, x1, x2, x3, x4] (va_rf (mr a 17) :: st) g mi mr Q) := tw_x_getr td_148_266 to_148 tf_10_43 (trf_10_17)
theorem td_148_269 : decode (tw_cd 148) 269 = .ok (.aload_n 0, 1) := by decide +kernel
theorem tz_148_269 : tw_E sc d 148 269 [some (.ref a), x1, x2, x3, x4] st g mi mr Q = tw_E sc d 148 270 [some (.ref a), x1, x2, x3, x4] (.ref a :: st) g mi mr Q := tw_x_aload_n td_148_269 rfl
theorem td_148_270 : decode (tw_cd 148) 270 = .ok (.getfield 16, 3) := by decide +kernel
theorem tz_148_270 : tw_E sc d 148 270 [x0, x1, x2, x3, x4] (.ref a :: st) g mi mr Q = (tw_kd g a = 10 ∧ tw_E sc d 148 273 [x0, x1, x2, x3, x4] (va_rf (mr a 7) :: st) g mi mr Q) := tw_x_getr td_148_270 to_148 tf_10_16 (trf_10_7)
theorem td_148_273 : decode (tw_cd 148) 273 = .ok (.iload_n 1, 1) := by decide +kernel
theorem tz_148_273 : tw_E sc d 148 273 [x0, some (.int v), x2, x3, x4] st g mi mr Q = tw_E sc d 148 274 [x0, some (.int v), x2, x3, x4] (.int v :: st) g mi mr Q := tw_x_iload_n td_148_273 rfl
theorem td_148_274 : decode (tw_cd 148) 274 = .ok (.iaload, 1) := by decide +kernel
theorem tz_148_274 : tw_E sc d 148 274 [x0, x1, x2, x3, x4] (.int v :: .ref a :: st) g mi mr Q = ((tw_kd g a = 20 ∧ vp_in v (tw_ln g a)) ∧ tw_E sc d 148 275 [x0, x1, x2, x3, x4] (.int (mi a v.toNatClampNeg) :: st) g mi mr Q) := tw_x_iald td_148_274
theorem td_148_275 : decode (tw_cd 148) 275 = .ok (.baload, 1) := by decide +kernel
theorem tz_148_275 : tw_E sc d 148 275 [x0, x1, x2, x3, x4] (.int v :: .ref a :: st) g mi mr Q = ((tw_kd g a = 21 ∧ vp_in v (tw_ln g a)) ∧ tw_E sc d 148 276 [x0, x1, x2, x3, x4] (.int (mi a v.toNatClampNeg) :: st) g mi mr Q) := tw_x_zald td_148_275
theorem td_148_276 : decode (tw_cd 148) 276 = .ok (.ifCond .eq 23, 3) := by decide +kernel
theorem tz_148_276 : tw_E sc d 148 276 [x0, x1, x2, x3, x4] (.int v :: st) g mi mr Q = if v = 0 then tw_E sc d 148 299 [x0, x1, x2, x3, x4] st g mi mr Q else tw_E sc d 148 279 [x0, x1, x2, x3, x4] st g mi mr Q := tw_x_if_eq td_148_276 (by decide)
theorem td_148_279 : decode (tw_cd 148) 279 = .ok (.aload_n 0, 1) := by decide +kernel
theorem tz_148_279 : tw_E sc d 148 279 [some (.ref a), x1, x2, x3, x4] st g mi mr Q = tw_E sc d 148 280 [some (.ref a), x1, x2, x3, x4] (.ref a :: st) g mi mr Q := tw_x_aload_n td_148_279 rfl
theorem td_148_280 : decode (tw_cd 148) 280 = .ok (.getfield 47, 3) := by decide +kernel
theorem tz_148_280 : tw_E sc d 148 280 [x0, x1, x2, x3, x4] (.ref a :: st) g mi mr Q = (tw_kd g a = 10 ∧ tw_E sc d 148 283 [x0, x1, x2, x3, x4] (va_rf (mr a 18) :: st) g mi mr Q) := tw_x_getr td_148_280 to_148 tf_10_47 (trf_10_18)
theorem td_148_283 : decode (tw_cd 148) 283 = .ok (.iload_n 1, 1) := by decide +kernel
theorem tz_148_283 : tw_E sc d 148 283 [x0, some (.int v), x2, x3, x4] st g mi mr Q = tw_E sc d 148 284 [x0, some (.int v), x2, x3, x4] (.int v :: st) g mi mr Q := tw_x_iload_n td_148_283 rfl
theorem td_148_284 : decode (tw_cd 148) 284 = .ok (.iaload, 1) := by decide +kernel
theorem tz_148_284 : tw_E sc d 148 284 [x0, x1, x2, x3, x4] (.int v :: .ref a :: st) g mi mr Q = ((tw_kd g a = 20 ∧ vp_in v (tw_ln g a)) ∧ tw_E sc d 148 285 [x0, x1, x2, x3, x4] (.int (mi a v.toNatClampNeg) :: st) g mi mr Q) := tw_x_iald td_148_284
theorem td_148_285 : decode (tw_cd 148) 285 = .ok (.aload_n 0, 1) := by decide +kernel
theorem tz_148_285 : tw_E sc d 148 285 [some (.ref a), x1, x2, x3, x4] st g mi mr Q = tw_E sc d 148 286 [some (.ref a), x1, x2, x3, x4] (.ref a :: st) g mi mr Q := tw_x_aload_n td_148_285 rfl
theorem td_148_286 : decode (tw_cd 148) 286 = .ok (.getfield 22, 3) := by decide +kernel
theorem tz_148_286 : tw_E sc d 148 286 [x0, x1, x2, x3, x4] (.ref a :: st) g mi mr Q = (tw_kd g a = 10 ∧ tw_E sc d 148 289 [x0, x1, x2, x3, x4] (va_rf (mr a 9) :: st) g mi mr Q) := tw_x_getr td_148_286 to_148 tf_10_22 (trf_10_9)
theorem td_148_289 : decode (tw_cd 148) 289 = .ok (.iload_n 1, 1) := by decide +kernel
theorem tz_148_289 : tw_E sc d 148 289 [x0, some (.int v), x2, x3, x4] st g mi mr Q = tw_E sc d 148 290 [x0, some (.int v), x2, x3, x4] (.int v :: st) g mi mr Q := tw_x_iload_n td_148_289 rfl
theorem td_148_290 : decode (tw_cd 148) 290 = .ok (.iaload, 1) := by decide +kernel
theorem tz_148_290 : tw_E sc d 148 290 [x0, x1, x2, x3, x4] (.int v :: .ref a :: st) g mi mr Q = ((tw_kd g a = 20 ∧ vp_in v (tw_ln g a)) ∧ tw_E sc d 148 291 [x0, x1, x2, x3, x4] (.int (mi a v.toNatClampNeg) :: st) g mi mr Q) := tw_x_iald td_148_290
theorem td_148_291 : decode (tw_cd 148) 291 = .ok (.irem, 1) := by decide +kernel
theorem tz_148_291 : tw_E sc d 148 291 [x0, x1, x2, x3, x4] (.int w :: .int v :: st) g mi mr Q = (¬ w = 0 ∧ tw_E sc d 148 292 [x0, x1, x2, x3, x4] (.int (v - v / w * w) :: st) g mi mr Q) := tw_x_irem td_148_291
theorem td_148_292 : decode (tw_cd 148) 292 = .ok (.ifCond .ne 7, 3) := by decide +kernel
theorem tz_148_292 : tw_E sc d 148 292 [x0, x1, x2, x3, x4] (.int v :: st) g mi mr Q = if ¬ v = 0 then tw_E sc d 148 299 [x0, x1, x2, x3, x4] st g mi mr Q else tw_E sc d 148 295 [x0, x1, x2, x3, x4] st g mi mr Q := tw_x_if_ne td_148_292 (by decide)
theorem td_148_295 : decode (tw_cd 148) 295 = .ok (.iconst 1, 1) := by decide +kernel
theorem tz_148_295 : tw_E sc d 148 295 [x0, x1, x2, x3, x4] st g mi mr Q = tw_E sc d 148 296 [x0, x1, x2, x3, x4] (.int 1 :: st) g mi mr Q := tw_x_iconst td_148_295 (by decide)
theorem td_148_296 : decode (tw_cd 148) 296 = .ok (.goto 4, 3) := by decide +kernel
theorem tz_148_296 : tw_E sc d 148 296 [x0, x1, x2, x3, x4] st g mi mr Q = tw_E sc d 148 300 [x0, x1, x2, x3, x4] st g mi mr Q := tw_x_goto td_148_296 (by decide)
theorem td_148_299 : decode (tw_cd 148) 299 = .ok (.iconst 0, 1) := by decide +kernel
theorem tz_148_299 : tw_E sc d 148 299 [x0, x1, x2, x3, x4] st g mi mr Q = tw_E sc d 148 300 [x0, x1, x2, x3, x4] (.int 0 :: st) g mi mr Q := tw_x_iconst td_148_299 (by decide)
theorem td_148_300 : decode (tw_cd 148) 300 = .ok (.ireturn, 1) := by decide +kernel
theorem tz_148_300 : tw_E sc d 148 300 [x0, x1, x2, x3, x4] ([.int v]) g mi mr Q = ((v = 0 ∨ v = 1) ∧ Q (some (.int v)) g mi mr) := tw_x_zret td_148_300 tr_148
theorem td_148_301 : decode (tw_cd 148) 301 = .ok (.aload_n 0, 1) := by decide +kernel
theorem tz_148_301 : tw_E sc d 148 301 [some (.ref a), x1, x2, x3, x4] st g mi mr Q = tw_E sc d 148 302 [some (.ref a), x1, x2, x3, x4] (.ref a :: st) g mi mr Q := tw_x_aload_n td_148_301 rfl
theorem td_148_302 : decode (tw_cd 148) 302 = .ok (.iload_n 1, 1) := by decide +kernel
theorem tz_148_302 : tw_E sc d 148 302 [x0, some (.int v), x2, x3, x4] st g mi mr Q = tw_E sc d 148 303 [x0, some (.int v), x2, x3, x4] (.int v :: st) g mi mr Q := tw_x_iload_n td_148_302 rfl
theorem td_148_303 : decode (tw_cd 148) 303 = .ok (.iload_n 2, 1) := by decide +kernel
theorem tz_148_303 : tw_E sc d 148 303 [x0, x1, some (.int v), x3, x4] st g mi mr Q = tw_E sc d 148 304 [x0, x1, some (.int v), x3, x4] (.int v :: st) g mi mr Q := tw_x_iload_n td_148_303 rfl
theorem td_148_304 : decode (tw_cd 148) 304 = .ok (.invokevirtual 196, 3) := by decide +kernel
theorem tz_148_304 {a0 : Int32} {a1 : Int32} : tw_E sc (d + 1) 148 304 [x0, x1, x2, x3, x4] ([.int a1, .int a0, .ref a]) g mi mr Q = (tw_kd g a = 10 ∧ tw_E sc d 147 0 [some (.ref a), some (.int a0), some (.int a1), none, none] [] g mi mr (tw_K sc (d + 1) 148 307 [x0, x1, x2, x3, x4] [] Q)) := tw_x_cv (as := [.int a0, .int a1]) (r := []) td_148_304 to_148 tc_10_196 to_147 rfl rfl rfl rfl
theorem td_148_307 : decode (tw_cd 148) 307 = .ok (.ireturn, 1) := by decide +kernel
theorem tz_148_307 : tw_E sc d 148 307 [x0, x1, x2, x3, x4] ([.int v]) g mi mr Q = ((v = 0 ∨ v = 1) ∧ Q (some (.int v)) g mi mr) := tw_x_zret td_148_307 tr_148
end tz_148
-- 149: Mo_come
section tz_149
variable {sc : Nat × (Nat → Int32)} {d : Nat} {x0 x1 x2 : Option Value} {st : List Value} {g : tw_G} {mi : tw_I} {mr : tw_Q} {Q : Option Value → tw_G → tw_I → tw_Q → Prop} {v w u : Int32} {a b : Nat} {j h : Int64} {s1 s2 s3 s4 : Value}
theorem td_149_0 : decode (tw_cd 149) 0 = .ok (.aload_n 0, 1) := by decide +kernel
theorem tz_149_0 : tw_E sc d 149 0 [some (.ref a), x1, x2] st g mi mr Q = tw_E sc d 149 1 [some (.ref a), x1, x2] (.ref a :: st) g mi mr Q := tw_x_aload_n td_149_0 rfl
theorem td_149_1 : decode (tw_cd 149) 1 = .ok (.getfield 53, 3) := by decide +kernel
theorem tz_149_1 : tw_E sc d 149 1 [x0, x1, x2] (.ref a :: st) g mi mr Q = (tw_kd g a = 10 ∧ tw_E sc d 149 4 [x0, x1, x2] (va_rf (mr a 21) :: st) g mi mr Q) := tw_x_getr td_149_1 to_149 tf_10_53 (trf_10_21)
theorem td_149_4 : decode (tw_cd 149) 4 = .ok (.aload_n 0, 1) := by decide +kernel
theorem tz_149_4 : tw_E sc d 149 4 [some (.ref a), x1, x2] st g mi mr Q = tw_E sc d 149 5 [some (.ref a), x1, x2] (.ref a :: st) g mi mr Q := tw_x_aload_n td_149_4 rfl
theorem td_149_5 : decode (tw_cd 149) 5 = .ok (.getfield 185, 3) := by decide +kernel
theorem tz_149_5 : tw_E sc d 149 5 [x0, x1, x2] (.ref a :: st) g mi mr Q = (tw_kd g a = 10 ∧ tw_E sc d 149 8 [x0, x1, x2] (.int (mi a 20) :: st) g mi mr Q) := tw_x_geti td_149_5 to_149 tf_10_185 (trf_10_20)
theorem td_149_8 : decode (tw_cd 149) 8 = .ok (.iload_n 1, 1) := by decide +kernel
theorem tz_149_8 : tw_E sc d 149 8 [x0, some (.int v), x2] st g mi mr Q = tw_E sc d 149 9 [x0, some (.int v), x2] (.int v :: st) g mi mr Q := tw_x_iload_n td_149_8 rfl
theorem td_149_9 : decode (tw_cd 149) 9 = .ok (.iastore, 1) := by decide +kernel
theorem tz_149_9 : tw_E sc d 149 9 [x0, x1, x2] (.int w :: .int v :: .ref a :: st) g mi mr Q = ((tw_kd g a = 20 ∧ vp_in v (tw_ln g a)) ∧ tw_E sc d 149 10 [x0, x1, x2] st g (tw_st mi a (tw_st (mi a) v.toNatClampNeg w)) mr Q) := tw_x_iast td_149_9
theorem td_149_10 : decode (tw_cd 149) 10 = .ok (.iconst 0, 1) := by decide +kernel
theorem tz_149_10 : tw_E sc d 149 10 [x0, x1, x2] st g mi mr Q = tw_E sc d 149 11 [x0, x1, x2] (.int 0 :: st) g mi mr Q := tw_x_iconst td_149_10 (by decide)
theorem td_149_11 : decode (tw_cd 149) 11 = .ok (.istore_n 2, 1) := by decide +kernel
theorem tz_149_11 : tw_E sc d 149 11 [x0, x1, x2] (.int v :: st) g mi mr Q = tw_E sc d 149 12 [x0, x1, some (.int v)] st g mi mr Q := tw_x_istore_n td_149_11 tp_149 rfl
theorem td_149_12 : decode (tw_cd 149) 12 = .ok (.iload_n 2, 1) := by decide +kernel
theorem tz_149_12 : tw_E sc d 149 12 [x0, x1, some (.int v)] st g mi mr Q = tw_E sc d 149 13 [x0, x1, some (.int v)] (.int v :: st) g mi mr Q := tw_x_iload_n td_149_12 rfl
theorem td_149_13 : decode (tw_cd 149) 13 = .ok (.aload_n 0, 1) := by decide +kernel
theorem tz_149_13 : tw_E sc d 149 13 [some (.ref a), x1, x2] st g mi mr Q = tw_E sc d 149 14 [some (.ref a), x1, x2] (.ref a :: st) g mi mr Q := tw_x_aload_n td_149_13 rfl
theorem td_149_14 : decode (tw_cd 149) 14 = .ok (.getfield 176, 3) := by decide +kernel
theorem tz_149_14 : tw_E sc d 149 14 [x0, x1, x2] (.ref a :: st) g mi mr Q = (tw_kd g a = 10 ∧ tw_E sc d 149 17 [x0, x1, x2] (.int (mi a 5) :: st) g mi mr Q) := tw_x_geti td_149_14 to_149 tf_10_176 (trf_10_5)
theorem td_149_17 : decode (tw_cd 149) 17 = .ok (.if_icmp .ge 24, 3) := by decide +kernel
theorem tz_149_17 : tw_E sc d 149 17 [x0, x1, x2] (.int w :: .int v :: st) g mi mr Q = if w ≤ v then tw_E sc d 149 41 [x0, x1, x2] st g mi mr Q else tw_E sc d 149 20 [x0, x1, x2] st g mi mr Q := tw_x_ic_ge td_149_17 (by decide)
theorem td_149_20 : decode (tw_cd 149) 20 = .ok (.aload_n 0, 1) := by decide +kernel
theorem tz_149_20 : tw_E sc d 149 20 [some (.ref a), x1, x2] st g mi mr Q = tw_E sc d 149 21 [some (.ref a), x1, x2] (.ref a :: st) g mi mr Q := tw_x_aload_n td_149_20 rfl
theorem td_149_21 : decode (tw_cd 149) 21 = .ok (.getfield 43, 3) := by decide +kernel
theorem tz_149_21 : tw_E sc d 149 21 [x0, x1, x2] (.ref a :: st) g mi mr Q = (tw_kd g a = 10 ∧ tw_E sc d 149 24 [x0, x1, x2] (va_rf (mr a 17) :: st) g mi mr Q) := tw_x_getr td_149_21 to_149 tf_10_43 (trf_10_17)
theorem td_149_24 : decode (tw_cd 149) 24 = .ok (.iload_n 2, 1) := by decide +kernel
theorem tz_149_24 : tw_E sc d 149 24 [x0, x1, some (.int v)] st g mi mr Q = tw_E sc d 149 25 [x0, x1, some (.int v)] (.int v :: st) g mi mr Q := tw_x_iload_n td_149_24 rfl
theorem td_149_25 : decode (tw_cd 149) 25 = .ok (.aload_n 0, 1) := by decide +kernel
theorem tz_149_25 : tw_E sc d 149 25 [some (.ref a), x1, x2] st g mi mr Q = tw_E sc d 149 26 [some (.ref a), x1, x2] (.ref a :: st) g mi mr Q := tw_x_aload_n td_149_25 rfl
theorem td_149_26 : decode (tw_cd 149) 26 = .ok (.iload_n 2, 1) := by decide +kernel
theorem tz_149_26 : tw_E sc d 149 26 [x0, x1, some (.int v)] st g mi mr Q = tw_E sc d 149 27 [x0, x1, some (.int v)] (.int v :: st) g mi mr Q := tw_x_iload_n td_149_26 rfl
theorem td_149_27 : decode (tw_cd 149) 27 = .ok (.aload_n 0, 1) := by decide +kernel
theorem tz_149_27 : tw_E sc d 149 27 [some (.ref a), x1, x2] st g mi mr Q = tw_E sc d 149 28 [some (.ref a), x1, x2] (.ref a :: st) g mi mr Q := tw_x_aload_n td_149_27 rfl
theorem td_149_28 : decode (tw_cd 149) 28 = .ok (.getfield 185, 3) := by decide +kernel
theorem tz_149_28 : tw_E sc d 149 28 [x0, x1, x2] (.ref a :: st) g mi mr Q = (tw_kd g a = 10 ∧ tw_E sc d 149 31 [x0, x1, x2] (.int (mi a 20) :: st) g mi mr Q) := tw_x_geti td_149_28 to_149 tf_10_185 (trf_10_20)
theorem td_149_31 : decode (tw_cd 149) 31 = .ok (.invokevirtual 200, 3) := by decide +kernel
theorem tz_149_31 {a0 : Int32} {a1 : Int32} : tw_E sc (d + 1) 149 31 [x0, x1, x2] ([.int a1, .int a0, .ref a, s1, s2]) g mi mr Q = (tw_kd g a = 10 ∧ tw_E sc d 148 0 [some (.ref a), some (.int a0), some (.int a1), none, none] [] g mi mr (tw_K sc (d + 1) 149 34 [x0, x1, x2] [s1, s2] Q)) := tw_x_cv (as := [.int a0, .int a1]) (r := [s1, s2]) td_149_31 to_149 tc_10_200 to_148 rfl rfl rfl rfl
theorem td_149_34 : decode (tw_cd 149) 34 = .ok (.bastore, 1) := by decide +kernel
theorem tz_149_34 : tw_E sc d 149 34 [x0, x1, x2] (.int w :: .int v :: .ref a :: st) g mi mr Q = ((tw_kd g a = 21 ∧ (w = 0 ∨ w = 1) ∧ vp_in v (tw_ln g a)) ∧ tw_E sc d 149 35 [x0, x1, x2] st g (tw_st mi a (tw_st (mi a) v.toNatClampNeg w)) mr Q) := tw_x_zast td_149_34
theorem td_149_35 : decode (tw_cd 149) 35 = .ok (.iinc 2 1, 3) := by decide +kernel
theorem tz_149_35 : tw_E sc d 149 35 [x0, x1, some (.int v)] st g mi mr Q = tw_E sc d 149 38 [x0, x1, some (.int (v + 1))] st g mi mr Q := tw_x_iinc td_149_35 rfl (by first | rfl | (exact congrArg (v + ·) (by decide))) tp_149 rfl
theorem td_149_38 : decode (tw_cd 149) 38 = .ok (.goto (-26), 3) := by decide +kernel
theorem tz_149_38 : tw_E sc d 149 38 [x0, x1, x2] st g mi mr Q = tw_E sc d 149 12 [x0, x1, x2] st g mi mr Q := tw_x_goto td_149_38 (by decide)
theorem td_149_41 : decode (tw_cd 149) 41 = .ok (.aload_n 0, 1) := by decide +kernel
theorem tz_149_41 : tw_E sc d 149 41 [some (.ref a), x1, x2] st g mi mr Q = tw_E sc d 149 42 [some (.ref a), x1, x2] (.ref a :: st) g mi mr Q := tw_x_aload_n td_149_41 rfl
theorem td_149_42 : decode (tw_cd 149) 42 = .ok (.getfield 56, 3) := by decide +kernel
theorem tz_149_42 : tw_E sc d 149 42 [x0, x1, x2] (.ref a :: st) g mi mr Q = (tw_kd g a = 10 ∧ tw_E sc d 149 45 [x0, x1, x2] (va_rf (mr a 22) :: st) g mi mr Q) := tw_x_getr td_149_42 to_149 tf_10_56 (trf_10_22)
theorem td_149_45 : decode (tw_cd 149) 45 = .ok (.aload_n 0, 1) := by decide +kernel
theorem tz_149_45 : tw_E sc d 149 45 [some (.ref a), x1, x2] st g mi mr Q = tw_E sc d 149 46 [some (.ref a), x1, x2] (.ref a :: st) g mi mr Q := tw_x_aload_n td_149_45 rfl
theorem td_149_46 : decode (tw_cd 149) 46 = .ok (.getfield 185, 3) := by decide +kernel
theorem tz_149_46 : tw_E sc d 149 46 [x0, x1, x2] (.ref a :: st) g mi mr Q = (tw_kd g a = 10 ∧ tw_E sc d 149 49 [x0, x1, x2] (.int (mi a 20) :: st) g mi mr Q) := tw_x_geti td_149_46 to_149 tf_10_185 (trf_10_20)
theorem td_149_49 : decode (tw_cd 149) 49 = .ok (.aload_n 0, 1) := by decide +kernel
theorem tz_149_49 : tw_E sc d 149 49 [some (.ref a), x1, x2] st g mi mr Q = tw_E sc d 149 50 [some (.ref a), x1, x2] (.ref a :: st) g mi mr Q := tw_x_aload_n td_149_49 rfl
theorem td_149_50 : decode (tw_cd 149) 50 = .ok (.getfield 43, 3) := by decide +kernel
theorem tz_149_50 : tw_E sc d 149 50 [x0, x1, x2] (.ref a :: st) g mi mr Q = (tw_kd g a = 10 ∧ tw_E sc d 149 53 [x0, x1, x2] (va_rf (mr a 17) :: st) g mi mr Q) := tw_x_getr td_149_50 to_149 tf_10_43 (trf_10_17)
theorem td_149_53 : decode (tw_cd 149) 53 = .ok (.aload_n 0, 1) := by decide +kernel
theorem tz_149_53 : tw_E sc d 149 53 [some (.ref a), x1, x2] st g mi mr Q = tw_E sc d 149 54 [some (.ref a), x1, x2] (.ref a :: st) g mi mr Q := tw_x_aload_n td_149_53 rfl
theorem td_149_54 : decode (tw_cd 149) 54 = .ok (.getfield 176, 3) := by decide +kernel
theorem tz_149_54 : tw_E sc d 149 54 [x0, x1, x2] (.ref a :: st) g mi mr Q = (tw_kd g a = 10 ∧ tw_E sc d 149 57 [x0, x1, x2] (.int (mi a 5) :: st) g mi mr Q) := tw_x_geti td_149_54 to_149 tf_10_176 (trf_10_5)
theorem td_149_57 : decode (tw_cd 149) 57 = .ok (.iconst 1, 1) := by decide +kernel
theorem tz_149_57 : tw_E sc d 149 57 [x0, x1, x2] st g mi mr Q = tw_E sc d 149 58 [x0, x1, x2] (.int 1 :: st) g mi mr Q := tw_x_iconst td_149_57 (by decide)
theorem td_149_58 : decode (tw_cd 149) 58 = .ok (.isub, 1) := by decide +kernel
theorem tz_149_58 : tw_E sc d 149 58 [x0, x1, x2] (.int w :: .int v :: st) g mi mr Q = tw_E sc d 149 59 [x0, x1, x2] (.int (v - w) :: st) g mi mr Q := tw_x_isub td_149_58
theorem td_149_59 : decode (tw_cd 149) 59 = .ok (.baload, 1) := by decide +kernel
theorem tz_149_59 : tw_E sc d 149 59 [x0, x1, x2] (.int v :: .ref a :: st) g mi mr Q = ((tw_kd g a = 21 ∧ vp_in v (tw_ln g a)) ∧ tw_E sc d 149 60 [x0, x1, x2] (.int (mi a v.toNatClampNeg) :: st) g mi mr Q) := tw_x_zald td_149_59
theorem td_149_60 : decode (tw_cd 149) 60 = .ok (.bastore, 1) := by decide +kernel
theorem tz_149_60 : tw_E sc d 149 60 [x0, x1, x2] (.int w :: .int v :: .ref a :: st) g mi mr Q = ((tw_kd g a = 21 ∧ (w = 0 ∨ w = 1) ∧ vp_in v (tw_ln g a)) ∧ tw_E sc d 149 61 [x0, x1, x2] st g (tw_st mi a (tw_st (mi a) v.toNatClampNeg w)) mr Q) := tw_x_zast td_149_60
theorem td_149_61 : decode (tw_cd 149) 61 = .ok (.aload_n 0, 1) := by decide +kernel
theorem tz_149_61 : tw_E sc d 149 61 [some (.ref a), x1, x2] st g mi mr Q = tw_E sc d 149 62 [some (.ref a), x1, x2] (.ref a :: st) g mi mr Q := tw_x_aload_n td_149_61 rfl
theorem td_149_62 : decode (tw_cd 149) 62 = .ok (.dup, 1) := by decide +kernel
theorem tz_149_62 : tw_E sc d 149 62 [x0, x1, x2] (.ref a :: st) g mi mr Q = tw_E sc d 149 63 [x0, x1, x2] (.ref a :: .ref a :: st) g mi mr Q := tw_x_dup_ref td_149_62
theorem td_149_63 : decode (tw_cd 149) 63 = .ok (.getfield 185, 3) := by decide +kernel
theorem tz_149_63 : tw_E sc d 149 63 [x0, x1, x2] (.ref a :: st) g mi mr Q = (tw_kd g a = 10 ∧ tw_E sc d 149 66 [x0, x1, x2] (.int (mi a 20) :: st) g mi mr Q) := tw_x_geti td_149_63 to_149 tf_10_185 (trf_10_20)
theorem td_149_66 : decode (tw_cd 149) 66 = .ok (.iconst 1, 1) := by decide +kernel
theorem tz_149_66 : tw_E sc d 149 66 [x0, x1, x2] st g mi mr Q = tw_E sc d 149 67 [x0, x1, x2] (.int 1 :: st) g mi mr Q := tw_x_iconst td_149_66 (by decide)
theorem td_149_67 : decode (tw_cd 149) 67 = .ok (.iadd, 1) := by decide +kernel
theorem tz_149_67 : tw_E sc d 149 67 [x0, x1, x2] (.int w :: .int v :: st) g mi mr Q = tw_E sc d 149 68 [x0, x1, x2] (.int (v + w) :: st) g mi mr Q := tw_x_iadd td_149_67
theorem td_149_68 : decode (tw_cd 149) 68 = .ok (.putfield 185, 3) := by decide +kernel
theorem tz_149_68 : tw_E sc d 149 68 [x0, x1, x2] (.int v :: .ref a :: st) g mi mr Q = (tw_kd g a = 10 ∧ tw_E sc d 149 71 [x0, x1, x2] st g (tw_st mi a (tw_st (mi a) 20 v)) mr Q) := tw_x_puti td_149_68 to_149 tf_10_185 rfl rfl
theorem td_149_71 : decode (tw_cd 149) 71 = .ok (.aload_n 0, 1) := by decide +kernel
theorem tz_149_71 : tw_E sc d 149 71 [some (.ref a), x1, x2] st g mi mr Q = tw_E sc d 149 72 [some (.ref a), x1, x2] (.ref a :: st) g mi mr Q := tw_x_aload_n td_149_71 rfl
theorem td_149_72 : decode (tw_cd 149) 72 = .ok (.getfield 56, 3) := by decide +kernel
theorem tz_149_72 : tw_E sc d 149 72 [x0, x1, x2] (.ref a :: st) g mi mr Q = (tw_kd g a = 10 ∧ tw_E sc d 149 75 [x0, x1, x2] (va_rf (mr a 22) :: st) g mi mr Q) := tw_x_getr td_149_72 to_149 tf_10_56 (trf_10_22)
theorem td_149_75 : decode (tw_cd 149) 75 = .ok (.aload_n 0, 1) := by decide +kernel
theorem tz_149_75 : tw_E sc d 149 75 [some (.ref a), x1, x2] st g mi mr Q = tw_E sc d 149 76 [some (.ref a), x1, x2] (.ref a :: st) g mi mr Q := tw_x_aload_n td_149_75 rfl
theorem td_149_76 : decode (tw_cd 149) 76 = .ok (.getfield 185, 3) := by decide +kernel
theorem tz_149_76 : tw_E sc d 149 76 [x0, x1, x2] (.ref a :: st) g mi mr Q = (tw_kd g a = 10 ∧ tw_E sc d 149 79 [x0, x1, x2] (.int (mi a 20) :: st) g mi mr Q) := tw_x_geti td_149_76 to_149 tf_10_185 (trf_10_20)
theorem td_149_79 : decode (tw_cd 149) 79 = .ok (.iconst 1, 1) := by decide +kernel
theorem tz_149_79 : tw_E sc d 149 79 [x0, x1, x2] st g mi mr Q = tw_E sc d 149 80 [x0, x1, x2] (.int 1 :: st) g mi mr Q := tw_x_iconst td_149_79 (by decide)
theorem td_149_80 : decode (tw_cd 149) 80 = .ok (.isub, 1) := by decide +kernel
theorem tz_149_80 : tw_E sc d 149 80 [x0, x1, x2] (.int w :: .int v :: st) g mi mr Q = tw_E sc d 149 81 [x0, x1, x2] (.int (v - w) :: st) g mi mr Q := tw_x_isub td_149_80
theorem td_149_81 : decode (tw_cd 149) 81 = .ok (.baload, 1) := by decide +kernel
theorem tz_149_81 : tw_E sc d 149 81 [x0, x1, x2] (.int v :: .ref a :: st) g mi mr Q = ((tw_kd g a = 21 ∧ vp_in v (tw_ln g a)) ∧ tw_E sc d 149 82 [x0, x1, x2] (.int (mi a v.toNatClampNeg) :: st) g mi mr Q) := tw_x_zald td_149_81
theorem td_149_82 : decode (tw_cd 149) 82 = .ok (.ifCond .eq 7, 3) := by decide +kernel
theorem tz_149_82 : tw_E sc d 149 82 [x0, x1, x2] (.int v :: st) g mi mr Q = if v = 0 then tw_E sc d 149 89 [x0, x1, x2] st g mi mr Q else tw_E sc d 149 85 [x0, x1, x2] st g mi mr Q := tw_x_if_eq td_149_82 (by decide)
theorem td_149_85 : decode (tw_cd 149) 85 = .ok (.iconst 1, 1) := by decide +kernel
theorem tz_149_85 : tw_E sc d 149 85 [x0, x1, x2] st g mi mr Q = tw_E sc d 149 86 [x0, x1, x2] (.int 1 :: st) g mi mr Q := tw_x_iconst td_149_85 (by decide)
theorem td_149_86 : decode (tw_cd 149) 86 = .ok (.goto 4, 3) := by decide +kernel
theorem tz_149_86 : tw_E sc d 149 86 [x0, x1, x2] st g mi mr Q = tw_E sc d 149 90 [x0, x1, x2] st g mi mr Q := tw_x_goto td_149_86 (by decide)
theorem td_149_89 : decode (tw_cd 149) 89 = .ok (.iconst 0, 1) := by decide +kernel
theorem tz_149_89 : tw_E sc d 149 89 [x0, x1, x2] st g mi mr Q = tw_E sc d 149 90 [x0, x1, x2] (.int 0 :: st) g mi mr Q := tw_x_iconst td_149_89 (by decide)
theorem td_149_90 : decode (tw_cd 149) 90 = .ok (.ireturn, 1) := by decide +kernel
theorem tz_149_90 : tw_E sc d 149 90 [x0, x1, x2] ([.int v]) g mi mr Q = Q (some (.int v)) g mi mr := tw_x_iret td_149_90 tr_149
end tz_149
-- 150: Mo_sample
section tz_150
variable {sc : Nat × (Nat → Int32)} {d : Nat} {x0 x1 x2 x3 x4 : Option Value} {st : List Value} {g : tw_G} {mi : tw_I} {mr : tw_Q} {Q : Option Value → tw_G → tw_I → tw_Q → Prop} {v w u : Int32} {a b : Nat} {j h : Int64} {s1 s2 s3 s4 : Value}
theorem td_150_0 : decode (tw_cd 150) 0 = .ok (.aload_n 0, 1) := by decide +kernel
theorem tz_150_0 : tw_E sc d 150 0 [some (.ref a), x1, x2, x3, x4] st g mi mr Q = tw_E sc d 150 1 [some (.ref a), x1, x2, x3, x4] (.ref a :: st) g mi mr Q := tw_x_aload_n td_150_0 rfl
theorem td_150_1 : decode (tw_cd 150) 1 = .ok (.iconst 0, 1) := by decide +kernel
theorem tz_150_1 : tw_E sc d 150 1 [x0, x1, x2, x3, x4] st g mi mr Q = tw_E sc d 150 2 [x0, x1, x2, x3, x4] (.int 0 :: st) g mi mr Q := tw_x_iconst td_150_1 (by decide)
theorem td_150_2 : decode (tw_cd 150) 2 = .ok (.putfield 83, 3) := by decide +kernel
theorem tz_150_2 : tw_E sc d 150 2 [x0, x1, x2, x3, x4] (.int v :: .ref a :: st) g mi mr Q = (tw_kd g a = 10 ∧ tw_E sc d 150 5 [x0, x1, x2, x3, x4] st g (tw_st mi a (tw_st (mi a) 0 v)) mr Q) := tw_x_puti td_150_2 to_150 tf_10_83 rfl rfl
theorem td_150_5 : decode (tw_cd 150) 5 = .ok (.iload_n 1, 1) := by decide +kernel
theorem tz_150_5 : tw_E sc d 150 5 [x0, some (.int v), x2, x3, x4] st g mi mr Q = tw_E sc d 150 6 [x0, some (.int v), x2, x3, x4] (.int v :: st) g mi mr Q := tw_x_iload_n td_150_5 rfl
theorem td_150_6 : decode (tw_cd 150) 6 = .ok (.i2l, 1) := by decide +kernel
theorem tz_150_6 : tw_E sc d 150 6 [x0, x1, x2, x3, x4] (.int v :: st) g mi mr Q = tw_E sc d 150 7 [x0, x1, x2, x3, x4] (.long v.toInt64 :: st) g mi mr Q := tw_x_i2l td_150_6
theorem td_150_7 : decode (tw_cd 150) 7 = .ok (.lconst 0, 1) := by decide +kernel
theorem tz_150_7 : tw_E sc d 150 7 [x0, x1, x2, x3, x4] st g mi mr Q = tw_E sc d 150 8 [x0, x1, x2, x3, x4] (.long 0 :: st) g mi mr Q := tw_x_lconst td_150_7 (by decide)
theorem td_150_8 : decode (tw_cd 150) 8 = .ok (.ldc2_w 203, 3) := by decide +kernel
theorem tz_150_8 : tw_E sc d 150 8 [x0, x1, x2, x3, x4] st g mi mr Q = tw_E sc d 150 11 [x0, x1, x2, x3, x4] (.long 65535 :: st) g mi mr Q := tw_x_ldl td_150_8 to_150 tl_10_203
theorem td_150_11 : decode (tw_cd 150) 11 = .ok (.invokestatic 96, 3) := by decide +kernel
theorem tz_150_11 {a0 : Int64} {a1 : Int64} {a2 : Int64} : tw_E sc (d + 1) 150 11 [x0, x1, x2, x3, x4] ([.long a2, .long a1, .long a0]) g mi mr Q = tw_E sc d 126 0 [some (.long a0), none, some (.long a1), none, some (.long a2), none] [] g mi mr (tw_K sc (d + 1) 150 14 [x0, x1, x2, x3, x4] [] Q) := tw_x_cs (as := [.long a0, .long a1, .long a2]) (r := []) td_150_11 to_150 tmn_10_96 tc_10_96 rfl rfl rfl rfl rfl
theorem td_150_14 : decode (tw_cd 150) 14 = .ok (.ifCond .eq 15, 3) := by decide +kernel
theorem tz_150_14 : tw_E sc d 150 14 [x0, x1, x2, x3, x4] (.int v :: st) g mi mr Q = if v = 0 then tw_E sc d 150 29 [x0, x1, x2, x3, x4] st g mi mr Q else tw_E sc d 150 17 [x0, x1, x2, x3, x4] st g mi mr Q := tw_x_if_eq td_150_14 (by decide)
theorem td_150_17 : decode (tw_cd 150) 17 = .ok (.iload_n 2, 1) := by decide +kernel
theorem tz_150_17 : tw_E sc d 150 17 [x0, x1, some (.int v), x3, x4] st g mi mr Q = tw_E sc d 150 18 [x0, x1, some (.int v), x3, x4] (.int v :: st) g mi mr Q := tw_x_iload_n td_150_17 rfl
theorem td_150_18 : decode (tw_cd 150) 18 = .ok (.i2l, 1) := by decide +kernel
theorem tz_150_18 : tw_E sc d 150 18 [x0, x1, x2, x3, x4] (.int v :: st) g mi mr Q = tw_E sc d 150 19 [x0, x1, x2, x3, x4] (.long v.toInt64 :: st) g mi mr Q := tw_x_i2l td_150_18
theorem td_150_19 : decode (tw_cd 150) 19 = .ok (.lconst 1, 1) := by decide +kernel
theorem tz_150_19 : tw_E sc d 150 19 [x0, x1, x2, x3, x4] st g mi mr Q = tw_E sc d 150 20 [x0, x1, x2, x3, x4] (.long 1 :: st) g mi mr Q := tw_x_lconst td_150_19 (by decide)
theorem td_150_20 : decode (tw_cd 150) 20 = .ok (.ldc2_w 205, 3) := by decide +kernel
theorem tz_150_20 : tw_E sc d 150 20 [x0, x1, x2, x3, x4] st g mi mr Q = tw_E sc d 150 23 [x0, x1, x2, x3, x4] (.long 1000 :: st) g mi mr Q := tw_x_ldl td_150_20 to_150 tl_10_205
theorem td_150_23 : decode (tw_cd 150) 23 = .ok (.invokestatic 96, 3) := by decide +kernel
theorem tz_150_23 {a0 : Int64} {a1 : Int64} {a2 : Int64} : tw_E sc (d + 1) 150 23 [x0, x1, x2, x3, x4] ([.long a2, .long a1, .long a0]) g mi mr Q = tw_E sc d 126 0 [some (.long a0), none, some (.long a1), none, some (.long a2), none] [] g mi mr (tw_K sc (d + 1) 150 26 [x0, x1, x2, x3, x4] [] Q) := tw_x_cs (as := [.long a0, .long a1, .long a2]) (r := []) td_150_23 to_150 tmn_10_96 tc_10_96 rfl rfl rfl rfl rfl
theorem td_150_26 : decode (tw_cd 150) 26 = .ok (.ifCond .ne 6, 3) := by decide +kernel
theorem tz_150_26 : tw_E sc d 150 26 [x0, x1, x2, x3, x4] (.int v :: st) g mi mr Q = if ¬ v = 0 then tw_E sc d 150 32 [x0, x1, x2, x3, x4] st g mi mr Q else tw_E sc d 150 29 [x0, x1, x2, x3, x4] st g mi mr Q := tw_x_if_ne td_150_26 (by decide)
theorem td_150_29 : decode (tw_cd 150) 29 = .ok (.bipush (-2), 2) := by decide +kernel
theorem tz_150_29 : tw_E sc d 150 29 [x0, x1, x2, x3, x4] st g mi mr Q = tw_E sc d 150 31 [x0, x1, x2, x3, x4] (.int (-2) :: st) g mi mr Q := tw_x_bipush td_150_29 (by decide)
theorem td_150_31 : decode (tw_cd 150) 31 = .ok (.ireturn, 1) := by decide +kernel
theorem tz_150_31 : tw_E sc d 150 31 [x0, x1, x2, x3, x4] ([.int v]) g mi mr Q = Q (some (.int v)) g mi mr := tw_x_iret td_150_31 tr_150
theorem td_150_32 : decode (tw_cd 150) 32 = .ok (.aload_n 0, 1) := by decide +kernel
theorem tz_150_32 : tw_E sc d 150 32 [some (.ref a), x1, x2, x3, x4] st g mi mr Q = tw_E sc d 150 33 [some (.ref a), x1, x2, x3, x4] (.ref a :: st) g mi mr Q := tw_x_aload_n td_150_32 rfl
theorem td_150_33 : decode (tw_cd 150) 33 = .ok (.getfield 179, 3) := by decide +kernel
theorem tz_150_33 : tw_E sc d 150 33 [x0, x1, x2, x3, x4] (.ref a :: st) g mi mr Q = (tw_kd g a = 10 ∧ tw_E sc d 150 36 [x0, x1, x2, x3, x4] (.int (mi a 4) :: st) g mi mr Q) := tw_x_geti td_150_33 to_150 tf_10_179 (trf_10_4)
theorem td_150_36 : decode (tw_cd 150) 36 = .ok (.ifCond .ne 6, 3) := by decide +kernel
theorem tz_150_36 : tw_E sc d 150 36 [x0, x1, x2, x3, x4] (.int v :: st) g mi mr Q = if ¬ v = 0 then tw_E sc d 150 42 [x0, x1, x2, x3, x4] st g mi mr Q else tw_E sc d 150 39 [x0, x1, x2, x3, x4] st g mi mr Q := tw_x_if_ne td_150_36 (by decide)
theorem td_150_39 : decode (tw_cd 150) 39 = .ok (.bipush (-3), 2) := by decide +kernel
theorem tz_150_39 : tw_E sc d 150 39 [x0, x1, x2, x3, x4] st g mi mr Q = tw_E sc d 150 41 [x0, x1, x2, x3, x4] (.int (-3) :: st) g mi mr Q := tw_x_bipush td_150_39 (by decide)
theorem td_150_41 : decode (tw_cd 150) 41 = .ok (.ireturn, 1) := by decide +kernel
theorem tz_150_41 : tw_E sc d 150 41 [x0, x1, x2, x3, x4] ([.int v]) g mi mr Q = Q (some (.int v)) g mi mr := tw_x_iret td_150_41 tr_150
theorem td_150_42 : decode (tw_cd 150) 42 = .ok (.aload_n 0, 1) := by decide +kernel
theorem tz_150_42 : tw_E sc d 150 42 [some (.ref a), x1, x2, x3, x4] st g mi mr Q = tw_E sc d 150 43 [some (.ref a), x1, x2, x3, x4] (.ref a :: st) g mi mr Q := tw_x_aload_n td_150_42 rfl
theorem td_150_43 : decode (tw_cd 150) 43 = .ok (.getfield 185, 3) := by decide +kernel
theorem tz_150_43 : tw_E sc d 150 43 [x0, x1, x2, x3, x4] (.ref a :: st) g mi mr Q = (tw_kd g a = 10 ∧ tw_E sc d 150 46 [x0, x1, x2, x3, x4] (.int (mi a 20) :: st) g mi mr Q) := tw_x_geti td_150_43 to_150 tf_10_185 (trf_10_20)
theorem td_150_46 : decode (tw_cd 150) 46 = .ok (.iload_n 2, 1) := by decide +kernel
theorem tz_150_46 : tw_E sc d 150 46 [x0, x1, some (.int v), x3, x4] st g mi mr Q = tw_E sc d 150 47 [x0, x1, some (.int v), x3, x4] (.int v :: st) g mi mr Q := tw_x_iload_n td_150_46 rfl
theorem td_150_47 : decode (tw_cd 150) 47 = .ok (.iadd, 1) := by decide +kernel
theorem tz_150_47 : tw_E sc d 150 47 [x0, x1, x2, x3, x4] (.int w :: .int v :: st) g mi mr Q = tw_E sc d 150 48 [x0, x1, x2, x3, x4] (.int (v + w) :: st) g mi mr Q := tw_x_iadd td_150_47
theorem td_150_48 : decode (tw_cd 150) 48 = .ok (.sipush 4000, 3) := by decide +kernel
theorem tz_150_48 : tw_E sc d 150 48 [x0, x1, x2, x3, x4] st g mi mr Q = tw_E sc d 150 51 [x0, x1, x2, x3, x4] (.int 4000 :: st) g mi mr Q := tw_x_sipush td_150_48 (by decide)
theorem td_150_51 : decode (tw_cd 150) 51 = .ok (.if_icmp .le 6, 3) := by decide +kernel
theorem tz_150_51 : tw_E sc d 150 51 [x0, x1, x2, x3, x4] (.int w :: .int v :: st) g mi mr Q = if v ≤ w then tw_E sc d 150 57 [x0, x1, x2, x3, x4] st g mi mr Q else tw_E sc d 150 54 [x0, x1, x2, x3, x4] st g mi mr Q := tw_x_ic_le td_150_51 (by decide)
theorem td_150_54 : decode (tw_cd 150) 54 = .ok (.bipush (-4), 2) := by decide +kernel
theorem tz_150_54 : tw_E sc d 150 54 [x0, x1, x2, x3, x4] st g mi mr Q = tw_E sc d 150 56 [x0, x1, x2, x3, x4] (.int (-4) :: st) g mi mr Q := tw_x_bipush td_150_54 (by decide)
theorem td_150_56 : decode (tw_cd 150) 56 = .ok (.ireturn, 1) := by decide +kernel
theorem tz_150_56 : tw_E sc d 150 56 [x0, x1, x2, x3, x4] ([.int v]) g mi mr Q = Q (some (.int v)) g mi mr := tw_x_iret td_150_56 tr_150
theorem td_150_57 : decode (tw_cd 150) 57 = .ok (.iconst 0, 1) := by decide +kernel
theorem tz_150_57 : tw_E sc d 150 57 [x0, x1, x2, x3, x4] st g mi mr Q = tw_E sc d 150 58 [x0, x1, x2, x3, x4] (.int 0 :: st) g mi mr Q := tw_x_iconst td_150_57 (by decide)
theorem td_150_58 : decode (tw_cd 150) 58 = .ok (.istore_n 3, 1) := by decide +kernel
theorem tz_150_58 : tw_E sc d 150 58 [x0, x1, x2, x3, x4] (.int v :: st) g mi mr Q = tw_E sc d 150 59 [x0, x1, x2, some (.int v), x4] st g mi mr Q := tw_x_istore_n td_150_58 tp_150 rfl
theorem td_150_59 : decode (tw_cd 150) 59 = .ok (.iconst 0, 1) := by decide +kernel
theorem tz_150_59 : tw_E sc d 150 59 [x0, x1, x2, x3, x4] st g mi mr Q = tw_E sc d 150 60 [x0, x1, x2, x3, x4] (.int 0 :: st) g mi mr Q := tw_x_iconst td_150_59 (by decide)
theorem td_150_60 : decode (tw_cd 150) 60 = .ok (.istore 4, 2) := by decide +kernel
theorem tz_150_60 : tw_E sc d 150 60 [x0, x1, x2, x3, x4] (.int v :: st) g mi mr Q = tw_E sc d 150 62 [x0, x1, x2, x3, some (.int v)] st g mi mr Q := tw_x_istore td_150_60 tp_150 rfl
theorem td_150_62 : decode (tw_cd 150) 62 = .ok (.iload 4, 2) := by decide +kernel
theorem tz_150_62 : tw_E sc d 150 62 [x0, x1, x2, x3, some (.int v)] st g mi mr Q = tw_E sc d 150 64 [x0, x1, x2, x3, some (.int v)] (.int v :: st) g mi mr Q := tw_x_iload td_150_62 rfl
theorem td_150_64 : decode (tw_cd 150) 64 = .ok (.iload_n 2, 1) := by decide +kernel
theorem tz_150_64 : tw_E sc d 150 64 [x0, x1, some (.int v), x3, x4] st g mi mr Q = tw_E sc d 150 65 [x0, x1, some (.int v), x3, x4] (.int v :: st) g mi mr Q := tw_x_iload_n td_150_64 rfl
theorem td_150_65 : decode (tw_cd 150) 65 = .ok (.if_icmp .ge 17, 3) := by decide +kernel
theorem tz_150_65 : tw_E sc d 150 65 [x0, x1, x2, x3, x4] (.int w :: .int v :: st) g mi mr Q = if w ≤ v then tw_E sc d 150 82 [x0, x1, x2, x3, x4] st g mi mr Q else tw_E sc d 150 68 [x0, x1, x2, x3, x4] st g mi mr Q := tw_x_ic_ge td_150_65 (by decide)
theorem td_150_68 : decode (tw_cd 150) 68 = .ok (.iload_n 3, 1) := by decide +kernel
theorem tz_150_68 : tw_E sc d 150 68 [x0, x1, x2, some (.int v), x4] st g mi mr Q = tw_E sc d 150 69 [x0, x1, x2, some (.int v), x4] (.int v :: st) g mi mr Q := tw_x_iload_n td_150_68 rfl
theorem td_150_69 : decode (tw_cd 150) 69 = .ok (.aload_n 0, 1) := by decide +kernel
theorem tz_150_69 : tw_E sc d 150 69 [some (.ref a), x1, x2, x3, x4] st g mi mr Q = tw_E sc d 150 70 [some (.ref a), x1, x2, x3, x4] (.ref a :: st) g mi mr Q := tw_x_aload_n td_150_69 rfl
theorem td_150_70 : decode (tw_cd 150) 70 = .ok (.iload_n 1, 1) := by decide +kernel
theorem tz_150_70 : tw_E sc d 150 70 [x0, some (.int v), x2, x3, x4] st g mi mr Q = tw_E sc d 150 71 [x0, some (.int v), x2, x3, x4] (.int v :: st) g mi mr Q := tw_x_iload_n td_150_70 rfl
theorem td_150_71 : decode (tw_cd 150) 71 = .ok (.invokevirtual 207, 3) := by decide +kernel
theorem tz_150_71 {a0 : Int32} : tw_E sc (d + 1) 150 71 [x0, x1, x2, x3, x4] ([.int a0, .ref a, s1]) g mi mr Q = (tw_kd g a = 10 ∧ tw_E sc d 149 0 [some (.ref a), some (.int a0), none] [] g mi mr (tw_K sc (d + 1) 150 74 [x0, x1, x2, x3, x4] [s1] Q)) := tw_x_cv (as := [.int a0]) (r := [s1]) td_150_71 to_150 tc_10_207 to_149 rfl rfl rfl rfl
theorem td_150_74 : decode (tw_cd 150) 74 = .ok (.iadd, 1) := by decide +kernel
theorem tz_150_74 : tw_E sc d 150 74 [x0, x1, x2, x3, x4] (.int w :: .int v :: st) g mi mr Q = tw_E sc d 150 75 [x0, x1, x2, x3, x4] (.int (v + w) :: st) g mi mr Q := tw_x_iadd td_150_74
theorem td_150_75 : decode (tw_cd 150) 75 = .ok (.istore_n 3, 1) := by decide +kernel
theorem tz_150_75 : tw_E sc d 150 75 [x0, x1, x2, x3, x4] (.int v :: st) g mi mr Q = tw_E sc d 150 76 [x0, x1, x2, some (.int v), x4] st g mi mr Q := tw_x_istore_n td_150_75 tp_150 rfl
theorem td_150_76 : decode (tw_cd 150) 76 = .ok (.iinc 4 1, 3) := by decide +kernel
theorem tz_150_76 : tw_E sc d 150 76 [x0, x1, x2, x3, some (.int v)] st g mi mr Q = tw_E sc d 150 79 [x0, x1, x2, x3, some (.int (v + 1))] st g mi mr Q := tw_x_iinc td_150_76 rfl (by first | rfl | (exact congrArg (v + ·) (by decide))) tp_150 rfl
theorem td_150_79 : decode (tw_cd 150) 79 = .ok (.goto (-17), 3) := by decide +kernel
theorem tz_150_79 : tw_E sc d 150 79 [x0, x1, x2, x3, x4] st g mi mr Q = tw_E sc d 150 62 [x0, x1, x2, x3, x4] st g mi mr Q := tw_x_goto td_150_79 (by decide)
theorem td_150_82 : decode (tw_cd 150) 82 = .ok (.iload_n 3, 1) := by decide +kernel
theorem tz_150_82 : tw_E sc d 150 82 [x0, x1, x2, some (.int v), x4] st g mi mr Q = tw_E sc d 150 83 [x0, x1, x2, some (.int v), x4] (.int v :: st) g mi mr Q := tw_x_iload_n td_150_82 rfl
theorem td_150_83 : decode (tw_cd 150) 83 = .ok (.ireturn, 1) := by decide +kernel
theorem tz_150_83 : tw_E sc d 150 83 [x0, x1, x2, x3, x4] ([.int v]) g mi mr Q = Q (some (.int v)) g mi mr := tw_x_iret td_150_83 tr_150
end tz_150
-- 151: Mo_holds
section tz_151
variable {sc : Nat × (Nat → Int32)} {d : Nat} {x0 x1 : Option Value} {st : List Value} {g : tw_G} {mi : tw_I} {mr : tw_Q} {Q : Option Value → tw_G → tw_I → tw_Q → Prop} {v w u : Int32} {a b : Nat} {j h : Int64} {s1 s2 s3 s4 : Value}
theorem td_151_0 : decode (tw_cd 151) 0 = .ok (.aload_n 0, 1) := by decide +kernel
theorem tz_151_0 : tw_E sc d 151 0 [some (.ref a), x1] st g mi mr Q = tw_E sc d 151 1 [some (.ref a), x1] (.ref a :: st) g mi mr Q := tw_x_aload_n td_151_0 rfl
theorem td_151_1 : decode (tw_cd 151) 1 = .ok (.iconst 0, 1) := by decide +kernel
theorem tz_151_1 : tw_E sc d 151 1 [x0, x1] st g mi mr Q = tw_E sc d 151 2 [x0, x1] (.int 0 :: st) g mi mr Q := tw_x_iconst td_151_1 (by decide)
theorem td_151_2 : decode (tw_cd 151) 2 = .ok (.putfield 83, 3) := by decide +kernel
theorem tz_151_2 : tw_E sc d 151 2 [x0, x1] (.int v :: .ref a :: st) g mi mr Q = (tw_kd g a = 10 ∧ tw_E sc d 151 5 [x0, x1] st g (tw_st mi a (tw_st (mi a) 0 v)) mr Q) := tw_x_puti td_151_2 to_151 tf_10_83 rfl rfl
theorem td_151_5 : decode (tw_cd 151) 5 = .ok (.iload_n 1, 1) := by decide +kernel
theorem tz_151_5 : tw_E sc d 151 5 [x0, some (.int v)] st g mi mr Q = tw_E sc d 151 6 [x0, some (.int v)] (.int v :: st) g mi mr Q := tw_x_iload_n td_151_5 rfl
theorem td_151_6 : decode (tw_cd 151) 6 = .ok (.i2l, 1) := by decide +kernel
theorem tz_151_6 : tw_E sc d 151 6 [x0, x1] (.int v :: st) g mi mr Q = tw_E sc d 151 7 [x0, x1] (.long v.toInt64 :: st) g mi mr Q := tw_x_i2l td_151_6
theorem td_151_7 : decode (tw_cd 151) 7 = .ok (.lconst 0, 1) := by decide +kernel
theorem tz_151_7 : tw_E sc d 151 7 [x0, x1] st g mi mr Q = tw_E sc d 151 8 [x0, x1] (.long 0 :: st) g mi mr Q := tw_x_lconst td_151_7 (by decide)
theorem td_151_8 : decode (tw_cd 151) 8 = .ok (.aload_n 0, 1) := by decide +kernel
theorem tz_151_8 : tw_E sc d 151 8 [some (.ref a), x1] st g mi mr Q = tw_E sc d 151 9 [some (.ref a), x1] (.ref a :: st) g mi mr Q := tw_x_aload_n td_151_8 rfl
theorem td_151_9 : decode (tw_cd 151) 9 = .ok (.getfield 176, 3) := by decide +kernel
theorem tz_151_9 : tw_E sc d 151 9 [x0, x1] (.ref a :: st) g mi mr Q = (tw_kd g a = 10 ∧ tw_E sc d 151 12 [x0, x1] (.int (mi a 5) :: st) g mi mr Q) := tw_x_geti td_151_9 to_151 tf_10_176 (trf_10_5)
theorem td_151_12 : decode (tw_cd 151) 12 = .ok (.iconst 1, 1) := by decide +kernel
theorem tz_151_12 : tw_E sc d 151 12 [x0, x1] st g mi mr Q = tw_E sc d 151 13 [x0, x1] (.int 1 :: st) g mi mr Q := tw_x_iconst td_151_12 (by decide)
theorem td_151_13 : decode (tw_cd 151) 13 = .ok (.isub, 1) := by decide +kernel
theorem tz_151_13 : tw_E sc d 151 13 [x0, x1] (.int w :: .int v :: st) g mi mr Q = tw_E sc d 151 14 [x0, x1] (.int (v - w) :: st) g mi mr Q := tw_x_isub td_151_13
theorem td_151_14 : decode (tw_cd 151) 14 = .ok (.i2l, 1) := by decide +kernel
theorem tz_151_14 : tw_E sc d 151 14 [x0, x1] (.int v :: st) g mi mr Q = tw_E sc d 151 15 [x0, x1] (.long v.toInt64 :: st) g mi mr Q := tw_x_i2l td_151_14
theorem td_151_15 : decode (tw_cd 151) 15 = .ok (.invokestatic 96, 3) := by decide +kernel
theorem tz_151_15 {a0 : Int64} {a1 : Int64} {a2 : Int64} : tw_E sc (d + 1) 151 15 [x0, x1] ([.long a2, .long a1, .long a0]) g mi mr Q = tw_E sc d 126 0 [some (.long a0), none, some (.long a1), none, some (.long a2), none] [] g mi mr (tw_K sc (d + 1) 151 18 [x0, x1] [] Q) := tw_x_cs (as := [.long a0, .long a1, .long a2]) (r := []) td_151_15 to_151 tmn_10_96 tc_10_96 rfl rfl rfl rfl rfl
theorem td_151_18 : decode (tw_cd 151) 18 = .ok (.ifCond .ne 7, 3) := by decide +kernel
theorem tz_151_18 : tw_E sc d 151 18 [x0, x1] (.int v :: st) g mi mr Q = if ¬ v = 0 then tw_E sc d 151 25 [x0, x1] st g mi mr Q else tw_E sc d 151 21 [x0, x1] st g mi mr Q := tw_x_if_ne td_151_18 (by decide)
theorem td_151_21 : decode (tw_cd 151) 21 = .ok (.iconst (-1), 1) := by decide +kernel
theorem tz_151_21 : tw_E sc d 151 21 [x0, x1] st g mi mr Q = tw_E sc d 151 22 [x0, x1] (.int (-1) :: st) g mi mr Q := tw_x_iconst td_151_21 (by decide)
theorem td_151_22 : decode (tw_cd 151) 22 = .ok (.goto 17, 3) := by decide +kernel
theorem tz_151_22 : tw_E sc d 151 22 [x0, x1] st g mi mr Q = tw_E sc d 151 39 [x0, x1] st g mi mr Q := tw_x_goto td_151_22 (by decide)
theorem td_151_25 : decode (tw_cd 151) 25 = .ok (.aload_n 0, 1) := by decide +kernel
theorem tz_151_25 : tw_E sc d 151 25 [some (.ref a), x1] st g mi mr Q = tw_E sc d 151 26 [some (.ref a), x1] (.ref a :: st) g mi mr Q := tw_x_aload_n td_151_25 rfl
theorem td_151_26 : decode (tw_cd 151) 26 = .ok (.getfield 43, 3) := by decide +kernel
theorem tz_151_26 : tw_E sc d 151 26 [x0, x1] (.ref a :: st) g mi mr Q = (tw_kd g a = 10 ∧ tw_E sc d 151 29 [x0, x1] (va_rf (mr a 17) :: st) g mi mr Q) := tw_x_getr td_151_26 to_151 tf_10_43 (trf_10_17)
theorem td_151_29 : decode (tw_cd 151) 29 = .ok (.iload_n 1, 1) := by decide +kernel
theorem tz_151_29 : tw_E sc d 151 29 [x0, some (.int v)] st g mi mr Q = tw_E sc d 151 30 [x0, some (.int v)] (.int v :: st) g mi mr Q := tw_x_iload_n td_151_29 rfl
theorem td_151_30 : decode (tw_cd 151) 30 = .ok (.baload, 1) := by decide +kernel
theorem tz_151_30 : tw_E sc d 151 30 [x0, x1] (.int v :: .ref a :: st) g mi mr Q = ((tw_kd g a = 21 ∧ vp_in v (tw_ln g a)) ∧ tw_E sc d 151 31 [x0, x1] (.int (mi a v.toNatClampNeg) :: st) g mi mr Q) := tw_x_zald td_151_30
theorem td_151_31 : decode (tw_cd 151) 31 = .ok (.ifCond .eq 7, 3) := by decide +kernel
theorem tz_151_31 : tw_E sc d 151 31 [x0, x1] (.int v :: st) g mi mr Q = if v = 0 then tw_E sc d 151 38 [x0, x1] st g mi mr Q else tw_E sc d 151 34 [x0, x1] st g mi mr Q := tw_x_if_eq td_151_31 (by decide)
theorem td_151_34 : decode (tw_cd 151) 34 = .ok (.iconst 1, 1) := by decide +kernel
theorem tz_151_34 : tw_E sc d 151 34 [x0, x1] st g mi mr Q = tw_E sc d 151 35 [x0, x1] (.int 1 :: st) g mi mr Q := tw_x_iconst td_151_34 (by decide)
theorem td_151_35 : decode (tw_cd 151) 35 = .ok (.goto 4, 3) := by decide +kernel
theorem tz_151_35 : tw_E sc d 151 35 [x0, x1] st g mi mr Q = tw_E sc d 151 39 [x0, x1] st g mi mr Q := tw_x_goto td_151_35 (by decide)
theorem td_151_38 : decode (tw_cd 151) 38 = .ok (.iconst 0, 1) := by decide +kernel
theorem tz_151_38 : tw_E sc d 151 38 [x0, x1] st g mi mr Q = tw_E sc d 151 39 [x0, x1] (.int 0 :: st) g mi mr Q := tw_x_iconst td_151_38 (by decide)
theorem td_151_39 : decode (tw_cd 151) 39 = .ok (.ireturn, 1) := by decide +kernel
theorem tz_151_39 : tw_E sc d 151 39 [x0, x1] ([.int v]) g mi mr Q = Q (some (.int v)) g mi mr := tw_x_iret td_151_39 tr_151
end tz_151
-- 152: Mo_waits
section tz_152
variable {sc : Nat × (Nat → Int32)} {d : Nat} {x0 x1 : Option Value} {st : List Value} {g : tw_G} {mi : tw_I} {mr : tw_Q} {Q : Option Value → tw_G → tw_I → tw_Q → Prop} {v w u : Int32} {a b : Nat} {j h : Int64} {s1 s2 s3 s4 : Value}
theorem td_152_0 : decode (tw_cd 152) 0 = .ok (.aload_n 0, 1) := by decide +kernel
theorem tz_152_0 : tw_E sc d 152 0 [some (.ref a), x1] st g mi mr Q = tw_E sc d 152 1 [some (.ref a), x1] (.ref a :: st) g mi mr Q := tw_x_aload_n td_152_0 rfl
theorem td_152_1 : decode (tw_cd 152) 1 = .ok (.iconst 0, 1) := by decide +kernel
theorem tz_152_1 : tw_E sc d 152 1 [x0, x1] st g mi mr Q = tw_E sc d 152 2 [x0, x1] (.int 0 :: st) g mi mr Q := tw_x_iconst td_152_1 (by decide)
theorem td_152_2 : decode (tw_cd 152) 2 = .ok (.putfield 83, 3) := by decide +kernel
theorem tz_152_2 : tw_E sc d 152 2 [x0, x1] (.int v :: .ref a :: st) g mi mr Q = (tw_kd g a = 10 ∧ tw_E sc d 152 5 [x0, x1] st g (tw_st mi a (tw_st (mi a) 0 v)) mr Q) := tw_x_puti td_152_2 to_152 tf_10_83 rfl rfl
theorem td_152_5 : decode (tw_cd 152) 5 = .ok (.iload_n 1, 1) := by decide +kernel
theorem tz_152_5 : tw_E sc d 152 5 [x0, some (.int v)] st g mi mr Q = tw_E sc d 152 6 [x0, some (.int v)] (.int v :: st) g mi mr Q := tw_x_iload_n td_152_5 rfl
theorem td_152_6 : decode (tw_cd 152) 6 = .ok (.i2l, 1) := by decide +kernel
theorem tz_152_6 : tw_E sc d 152 6 [x0, x1] (.int v :: st) g mi mr Q = tw_E sc d 152 7 [x0, x1] (.long v.toInt64 :: st) g mi mr Q := tw_x_i2l td_152_6
theorem td_152_7 : decode (tw_cd 152) 7 = .ok (.lconst 0, 1) := by decide +kernel
theorem tz_152_7 : tw_E sc d 152 7 [x0, x1] st g mi mr Q = tw_E sc d 152 8 [x0, x1] (.long 0 :: st) g mi mr Q := tw_x_lconst td_152_7 (by decide)
theorem td_152_8 : decode (tw_cd 152) 8 = .ok (.aload_n 0, 1) := by decide +kernel
theorem tz_152_8 : tw_E sc d 152 8 [some (.ref a), x1] st g mi mr Q = tw_E sc d 152 9 [some (.ref a), x1] (.ref a :: st) g mi mr Q := tw_x_aload_n td_152_8 rfl
theorem td_152_9 : decode (tw_cd 152) 9 = .ok (.getfield 176, 3) := by decide +kernel
theorem tz_152_9 : tw_E sc d 152 9 [x0, x1] (.ref a :: st) g mi mr Q = (tw_kd g a = 10 ∧ tw_E sc d 152 12 [x0, x1] (.int (mi a 5) :: st) g mi mr Q) := tw_x_geti td_152_9 to_152 tf_10_176 (trf_10_5)
theorem td_152_12 : decode (tw_cd 152) 12 = .ok (.iconst 1, 1) := by decide +kernel
theorem tz_152_12 : tw_E sc d 152 12 [x0, x1] st g mi mr Q = tw_E sc d 152 13 [x0, x1] (.int 1 :: st) g mi mr Q := tw_x_iconst td_152_12 (by decide)
theorem td_152_13 : decode (tw_cd 152) 13 = .ok (.isub, 1) := by decide +kernel
theorem tz_152_13 : tw_E sc d 152 13 [x0, x1] (.int w :: .int v :: st) g mi mr Q = tw_E sc d 152 14 [x0, x1] (.int (v - w) :: st) g mi mr Q := tw_x_isub td_152_13
theorem td_152_14 : decode (tw_cd 152) 14 = .ok (.i2l, 1) := by decide +kernel
theorem tz_152_14 : tw_E sc d 152 14 [x0, x1] (.int v :: st) g mi mr Q = tw_E sc d 152 15 [x0, x1] (.long v.toInt64 :: st) g mi mr Q := tw_x_i2l td_152_14
theorem td_152_15 : decode (tw_cd 152) 15 = .ok (.invokestatic 96, 3) := by decide +kernel
theorem tz_152_15 {a0 : Int64} {a1 : Int64} {a2 : Int64} : tw_E sc (d + 1) 152 15 [x0, x1] ([.long a2, .long a1, .long a0]) g mi mr Q = tw_E sc d 126 0 [some (.long a0), none, some (.long a1), none, some (.long a2), none] [] g mi mr (tw_K sc (d + 1) 152 18 [x0, x1] [] Q) := tw_x_cs (as := [.long a0, .long a1, .long a2]) (r := []) td_152_15 to_152 tmn_10_96 tc_10_96 rfl rfl rfl rfl rfl
theorem td_152_18 : decode (tw_cd 152) 18 = .ok (.ifCond .ne 7, 3) := by decide +kernel
theorem tz_152_18 : tw_E sc d 152 18 [x0, x1] (.int v :: st) g mi mr Q = if ¬ v = 0 then tw_E sc d 152 25 [x0, x1] st g mi mr Q else tw_E sc d 152 21 [x0, x1] st g mi mr Q := tw_x_if_ne td_152_18 (by decide)
theorem td_152_21 : decode (tw_cd 152) 21 = .ok (.iconst (-1), 1) := by decide +kernel
theorem tz_152_21 : tw_E sc d 152 21 [x0, x1] st g mi mr Q = tw_E sc d 152 22 [x0, x1] (.int (-1) :: st) g mi mr Q := tw_x_iconst td_152_21 (by decide)
theorem td_152_22 : decode (tw_cd 152) 22 = .ok (.goto 44, 3) := by decide +kernel
theorem tz_152_22 : tw_E sc d 152 22 [x0, x1] st g mi mr Q = tw_E sc d 152 66 [x0, x1] st g mi mr Q := tw_x_goto td_152_22 (by decide)
theorem td_152_25 : decode (tw_cd 152) 25 = .ok (.aload_n 0, 1) := by decide +kernel
theorem tz_152_25 : tw_E sc d 152 25 [some (.ref a), x1] st g mi mr Q = tw_E sc d 152 26 [some (.ref a), x1] (.ref a :: st) g mi mr Q := tw_x_aload_n td_152_25 rfl
theorem td_152_26 : decode (tw_cd 152) 26 = .ok (.getfield 13, 3) := by decide +kernel
theorem tz_152_26 : tw_E sc d 152 26 [x0, x1] (.ref a :: st) g mi mr Q = (tw_kd g a = 10 ∧ tw_E sc d 152 29 [x0, x1] (va_rf (mr a 6) :: st) g mi mr Q) := tw_x_getr td_152_26 to_152 tf_10_13 (trf_10_6)
theorem td_152_29 : decode (tw_cd 152) 29 = .ok (.iload_n 1, 1) := by decide +kernel
theorem tz_152_29 : tw_E sc d 152 29 [x0, some (.int v)] st g mi mr Q = tw_E sc d 152 30 [x0, some (.int v)] (.int v :: st) g mi mr Q := tw_x_iload_n td_152_29 rfl
theorem td_152_30 : decode (tw_cd 152) 30 = .ok (.iaload, 1) := by decide +kernel
theorem tz_152_30 : tw_E sc d 152 30 [x0, x1] (.int v :: .ref a :: st) g mi mr Q = ((tw_kd g a = 20 ∧ vp_in v (tw_ln g a)) ∧ tw_E sc d 152 31 [x0, x1] (.int (mi a v.toNatClampNeg) :: st) g mi mr Q) := tw_x_iald td_152_30
theorem td_152_31 : decode (tw_cd 152) 31 = .ok (.iconst 5, 1) := by decide +kernel
theorem tz_152_31 : tw_E sc d 152 31 [x0, x1] st g mi mr Q = tw_E sc d 152 32 [x0, x1] (.int 5 :: st) g mi mr Q := tw_x_iconst td_152_31 (by decide)
theorem td_152_32 : decode (tw_cd 152) 32 = .ok (.if_icmp .ne 12, 3) := by decide +kernel
theorem tz_152_32 : tw_E sc d 152 32 [x0, x1] (.int w :: .int v :: st) g mi mr Q = if ¬ v = w then tw_E sc d 152 44 [x0, x1] st g mi mr Q else tw_E sc d 152 35 [x0, x1] st g mi mr Q := tw_x_ic_ne td_152_32 (by decide)
theorem td_152_35 : decode (tw_cd 152) 35 = .ok (.aload_n 0, 1) := by decide +kernel
theorem tz_152_35 : tw_E sc d 152 35 [some (.ref a), x1] st g mi mr Q = tw_E sc d 152 36 [some (.ref a), x1] (.ref a :: st) g mi mr Q := tw_x_aload_n td_152_35 rfl
theorem td_152_36 : decode (tw_cd 152) 36 = .ok (.getfield 47, 3) := by decide +kernel
theorem tz_152_36 : tw_E sc d 152 36 [x0, x1] (.ref a :: st) g mi mr Q = (tw_kd g a = 10 ∧ tw_E sc d 152 39 [x0, x1] (va_rf (mr a 18) :: st) g mi mr Q) := tw_x_getr td_152_36 to_152 tf_10_47 (trf_10_18)
theorem td_152_39 : decode (tw_cd 152) 39 = .ok (.iload_n 1, 1) := by decide +kernel
theorem tz_152_39 : tw_E sc d 152 39 [x0, some (.int v)] st g mi mr Q = tw_E sc d 152 40 [x0, some (.int v)] (.int v :: st) g mi mr Q := tw_x_iload_n td_152_39 rfl
theorem td_152_40 : decode (tw_cd 152) 40 = .ok (.iaload, 1) := by decide +kernel
theorem tz_152_40 : tw_E sc d 152 40 [x0, x1] (.int v :: .ref a :: st) g mi mr Q = ((tw_kd g a = 20 ∧ vp_in v (tw_ln g a)) ∧ tw_E sc d 152 41 [x0, x1] (.int (mi a v.toNatClampNeg) :: st) g mi mr Q) := tw_x_iald td_152_40
theorem td_152_41 : decode (tw_cd 152) 41 = .ok (.goto 25, 3) := by decide +kernel
theorem tz_152_41 : tw_E sc d 152 41 [x0, x1] st g mi mr Q = tw_E sc d 152 66 [x0, x1] st g mi mr Q := tw_x_goto td_152_41 (by decide)
theorem td_152_44 : decode (tw_cd 152) 44 = .ok (.aload_n 0, 1) := by decide +kernel
theorem tz_152_44 : tw_E sc d 152 44 [some (.ref a), x1] st g mi mr Q = tw_E sc d 152 45 [some (.ref a), x1] (.ref a :: st) g mi mr Q := tw_x_aload_n td_152_44 rfl
theorem td_152_45 : decode (tw_cd 152) 45 = .ok (.getfield 13, 3) := by decide +kernel
theorem tz_152_45 : tw_E sc d 152 45 [x0, x1] (.ref a :: st) g mi mr Q = (tw_kd g a = 10 ∧ tw_E sc d 152 48 [x0, x1] (va_rf (mr a 6) :: st) g mi mr Q) := tw_x_getr td_152_45 to_152 tf_10_13 (trf_10_6)
theorem td_152_48 : decode (tw_cd 152) 48 = .ok (.iload_n 1, 1) := by decide +kernel
theorem tz_152_48 : tw_E sc d 152 48 [x0, some (.int v)] st g mi mr Q = tw_E sc d 152 49 [x0, some (.int v)] (.int v :: st) g mi mr Q := tw_x_iload_n td_152_48 rfl
theorem td_152_49 : decode (tw_cd 152) 49 = .ok (.iaload, 1) := by decide +kernel
theorem tz_152_49 : tw_E sc d 152 49 [x0, x1] (.int v :: .ref a :: st) g mi mr Q = ((tw_kd g a = 20 ∧ vp_in v (tw_ln g a)) ∧ tw_E sc d 152 50 [x0, x1] (.int (mi a v.toNatClampNeg) :: st) g mi mr Q) := tw_x_iald td_152_49
theorem td_152_50 : decode (tw_cd 152) 50 = .ok (.bipush 6, 2) := by decide +kernel
theorem tz_152_50 : tw_E sc d 152 50 [x0, x1] st g mi mr Q = tw_E sc d 152 52 [x0, x1] (.int 6 :: st) g mi mr Q := tw_x_bipush td_152_50 (by decide)
theorem td_152_52 : decode (tw_cd 152) 52 = .ok (.if_icmp .lt 12, 3) := by decide +kernel
theorem tz_152_52 : tw_E sc d 152 52 [x0, x1] (.int w :: .int v :: st) g mi mr Q = if v < w then tw_E sc d 152 64 [x0, x1] st g mi mr Q else tw_E sc d 152 55 [x0, x1] st g mi mr Q := tw_x_ic_lt td_152_52 (by decide)
theorem td_152_55 : decode (tw_cd 152) 55 = .ok (.aload_n 0, 1) := by decide +kernel
theorem tz_152_55 : tw_E sc d 152 55 [some (.ref a), x1] st g mi mr Q = tw_E sc d 152 56 [some (.ref a), x1] (.ref a :: st) g mi mr Q := tw_x_aload_n td_152_55 rfl
theorem td_152_56 : decode (tw_cd 152) 56 = .ok (.getfield 50, 3) := by decide +kernel
theorem tz_152_56 : tw_E sc d 152 56 [x0, x1] (.ref a :: st) g mi mr Q = (tw_kd g a = 10 ∧ tw_E sc d 152 59 [x0, x1] (va_rf (mr a 19) :: st) g mi mr Q) := tw_x_getr td_152_56 to_152 tf_10_50 (trf_10_19)
theorem td_152_59 : decode (tw_cd 152) 59 = .ok (.iload_n 1, 1) := by decide +kernel
theorem tz_152_59 : tw_E sc d 152 59 [x0, some (.int v)] st g mi mr Q = tw_E sc d 152 60 [x0, some (.int v)] (.int v :: st) g mi mr Q := tw_x_iload_n td_152_59 rfl
theorem td_152_60 : decode (tw_cd 152) 60 = .ok (.iaload, 1) := by decide +kernel
theorem tz_152_60 : tw_E sc d 152 60 [x0, x1] (.int v :: .ref a :: st) g mi mr Q = ((tw_kd g a = 20 ∧ vp_in v (tw_ln g a)) ∧ tw_E sc d 152 61 [x0, x1] (.int (mi a v.toNatClampNeg) :: st) g mi mr Q) := tw_x_iald td_152_60
theorem td_152_61 : decode (tw_cd 152) 61 = .ok (.goto 5, 3) := by decide +kernel
theorem tz_152_61 : tw_E sc d 152 61 [x0, x1] st g mi mr Q = tw_E sc d 152 66 [x0, x1] st g mi mr Q := tw_x_goto td_152_61 (by decide)
theorem td_152_64 : decode (tw_cd 152) 64 = .ok (.bipush (-9), 2) := by decide +kernel
theorem tz_152_64 : tw_E sc d 152 64 [x0, x1] st g mi mr Q = tw_E sc d 152 66 [x0, x1] (.int (-9) :: st) g mi mr Q := tw_x_bipush td_152_64 (by decide)
theorem td_152_66 : decode (tw_cd 152) 66 = .ok (.ireturn, 1) := by decide +kernel
theorem tz_152_66 : tw_E sc d 152 66 [x0, x1] ([.int v]) g mi mr Q = Q (some (.int v)) g mi mr := tw_x_iret td_152_66 tr_152
end tz_152
-- 153: Mo_noTick
section tz_153
variable {sc : Nat × (Nat → Int32)} {d : Nat} {x0 x1 : Option Value} {st : List Value} {g : tw_G} {mi : tw_I} {mr : tw_Q} {Q : Option Value → tw_G → tw_I → tw_Q → Prop} {v w u : Int32} {a b : Nat} {j h : Int64} {s1 s2 s3 s4 : Value}
theorem td_153_0 : decode (tw_cd 153) 0 = .ok (.iload_n 1, 1) := by decide +kernel
theorem tz_153_0 : tw_E sc d 153 0 [x0, some (.int v)] st g mi mr Q = tw_E sc d 153 1 [x0, some (.int v)] (.int v :: st) g mi mr Q := tw_x_iload_n td_153_0 rfl
theorem td_153_1 : decode (tw_cd 153) 1 = .ok (.i2l, 1) := by decide +kernel
theorem tz_153_1 : tw_E sc d 153 1 [x0, x1] (.int v :: st) g mi mr Q = tw_E sc d 153 2 [x0, x1] (.long v.toInt64 :: st) g mi mr Q := tw_x_i2l td_153_1
theorem td_153_2 : decode (tw_cd 153) 2 = .ok (.lconst 0, 1) := by decide +kernel
theorem tz_153_2 : tw_E sc d 153 2 [x0, x1] st g mi mr Q = tw_E sc d 153 3 [x0, x1] (.long 0 :: st) g mi mr Q := tw_x_lconst td_153_2 (by decide)
theorem td_153_3 : decode (tw_cd 153) 3 = .ok (.aload_n 0, 1) := by decide +kernel
theorem tz_153_3 : tw_E sc d 153 3 [some (.ref a), x1] st g mi mr Q = tw_E sc d 153 4 [some (.ref a), x1] (.ref a :: st) g mi mr Q := tw_x_aload_n td_153_3 rfl
theorem td_153_4 : decode (tw_cd 153) 4 = .ok (.getfield 185, 3) := by decide +kernel
theorem tz_153_4 : tw_E sc d 153 4 [x0, x1] (.ref a :: st) g mi mr Q = (tw_kd g a = 10 ∧ tw_E sc d 153 7 [x0, x1] (.int (mi a 20) :: st) g mi mr Q) := tw_x_geti td_153_4 to_153 tf_10_185 (trf_10_20)
theorem td_153_7 : decode (tw_cd 153) 7 = .ok (.iconst 1, 1) := by decide +kernel
theorem tz_153_7 : tw_E sc d 153 7 [x0, x1] st g mi mr Q = tw_E sc d 153 8 [x0, x1] (.int 1 :: st) g mi mr Q := tw_x_iconst td_153_7 (by decide)
theorem td_153_8 : decode (tw_cd 153) 8 = .ok (.isub, 1) := by decide +kernel
theorem tz_153_8 : tw_E sc d 153 8 [x0, x1] (.int w :: .int v :: st) g mi mr Q = tw_E sc d 153 9 [x0, x1] (.int (v - w) :: st) g mi mr Q := tw_x_isub td_153_8
theorem td_153_9 : decode (tw_cd 153) 9 = .ok (.i2l, 1) := by decide +kernel
theorem tz_153_9 : tw_E sc d 153 9 [x0, x1] (.int v :: st) g mi mr Q = tw_E sc d 153 10 [x0, x1] (.long v.toInt64 :: st) g mi mr Q := tw_x_i2l td_153_9
theorem td_153_10 : decode (tw_cd 153) 10 = .ok (.invokestatic 96, 3) := by decide +kernel
theorem tz_153_10 {a0 : Int64} {a1 : Int64} {a2 : Int64} : tw_E sc (d + 1) 153 10 [x0, x1] ([.long a2, .long a1, .long a0]) g mi mr Q = tw_E sc d 126 0 [some (.long a0), none, some (.long a1), none, some (.long a2), none] [] g mi mr (tw_K sc (d + 1) 153 13 [x0, x1] [] Q) := tw_x_cs (as := [.long a0, .long a1, .long a2]) (r := []) td_153_10 to_153 tmn_10_96 tc_10_96 rfl rfl rfl rfl rfl
theorem td_153_13 : decode (tw_cd 153) 13 = .ok (.ifCond .ne 7, 3) := by decide +kernel
theorem tz_153_13 : tw_E sc d 153 13 [x0, x1] (.int v :: st) g mi mr Q = if ¬ v = 0 then tw_E sc d 153 20 [x0, x1] st g mi mr Q else tw_E sc d 153 16 [x0, x1] st g mi mr Q := tw_x_if_ne td_153_13 (by decide)
theorem td_153_16 : decode (tw_cd 153) 16 = .ok (.iconst 1, 1) := by decide +kernel
theorem tz_153_16 : tw_E sc d 153 16 [x0, x1] st g mi mr Q = tw_E sc d 153 17 [x0, x1] (.int 1 :: st) g mi mr Q := tw_x_iconst td_153_16 (by decide)
theorem td_153_17 : decode (tw_cd 153) 17 = .ok (.goto 4, 3) := by decide +kernel
theorem tz_153_17 : tw_E sc d 153 17 [x0, x1] st g mi mr Q = tw_E sc d 153 21 [x0, x1] st g mi mr Q := tw_x_goto td_153_17 (by decide)
theorem td_153_20 : decode (tw_cd 153) 20 = .ok (.iconst 0, 1) := by decide +kernel
theorem tz_153_20 : tw_E sc d 153 20 [x0, x1] st g mi mr Q = tw_E sc d 153 21 [x0, x1] (.int 0 :: st) g mi mr Q := tw_x_iconst td_153_20 (by decide)
theorem td_153_21 : decode (tw_cd 153) 21 = .ok (.ireturn, 1) := by decide +kernel
theorem tz_153_21 : tw_E sc d 153 21 [x0, x1] ([.int v]) g mi mr Q = ((v = 0 ∨ v = 1) ∧ Q (some (.int v)) g mi mr) := tw_x_zret td_153_21 tr_153
end tz_153
-- 154: Mo_held
section tz_154
variable {sc : Nat × (Nat → Int32)} {d : Nat} {x0 x1 : Option Value} {st : List Value} {g : tw_G} {mi : tw_I} {mr : tw_Q} {Q : Option Value → tw_G → tw_I → tw_Q → Prop} {v w u : Int32} {a b : Nat} {j h : Int64} {s1 s2 s3 s4 : Value}
theorem td_154_0 : decode (tw_cd 154) 0 = .ok (.aload_n 0, 1) := by decide +kernel
theorem tz_154_0 : tw_E sc d 154 0 [some (.ref a), x1] st g mi mr Q = tw_E sc d 154 1 [some (.ref a), x1] (.ref a :: st) g mi mr Q := tw_x_aload_n td_154_0 rfl
theorem td_154_1 : decode (tw_cd 154) 1 = .ok (.iconst 0, 1) := by decide +kernel
theorem tz_154_1 : tw_E sc d 154 1 [x0, x1] st g mi mr Q = tw_E sc d 154 2 [x0, x1] (.int 0 :: st) g mi mr Q := tw_x_iconst td_154_1 (by decide)
theorem td_154_2 : decode (tw_cd 154) 2 = .ok (.putfield 83, 3) := by decide +kernel
theorem tz_154_2 : tw_E sc d 154 2 [x0, x1] (.int v :: .ref a :: st) g mi mr Q = (tw_kd g a = 10 ∧ tw_E sc d 154 5 [x0, x1] st g (tw_st mi a (tw_st (mi a) 0 v)) mr Q) := tw_x_puti td_154_2 to_154 tf_10_83 rfl rfl
theorem td_154_5 : decode (tw_cd 154) 5 = .ok (.aload_n 0, 1) := by decide +kernel
theorem tz_154_5 : tw_E sc d 154 5 [some (.ref a), x1] st g mi mr Q = tw_E sc d 154 6 [some (.ref a), x1] (.ref a :: st) g mi mr Q := tw_x_aload_n td_154_5 rfl
theorem td_154_6 : decode (tw_cd 154) 6 = .ok (.iload_n 1, 1) := by decide +kernel
theorem tz_154_6 : tw_E sc d 154 6 [x0, some (.int v)] st g mi mr Q = tw_E sc d 154 7 [x0, some (.int v)] (.int v :: st) g mi mr Q := tw_x_iload_n td_154_6 rfl
theorem td_154_7 : decode (tw_cd 154) 7 = .ok (.invokevirtual 210, 3) := by decide +kernel
theorem tz_154_7 {a0 : Int32} : tw_E sc (d + 1) 154 7 [x0, x1] ([.int a0, .ref a]) g mi mr Q = (tw_kd g a = 10 ∧ tw_E sc d 153 0 [some (.ref a), some (.int a0)] [] g mi mr (tw_K sc (d + 1) 154 10 [x0, x1] [] Q)) := tw_x_cv (as := [.int a0]) (r := []) td_154_7 to_154 tc_10_210 to_153 rfl rfl rfl rfl
theorem td_154_10 : decode (tw_cd 154) 10 = .ok (.ifCond .eq 7, 3) := by decide +kernel
theorem tz_154_10 : tw_E sc d 154 10 [x0, x1] (.int v :: st) g mi mr Q = if v = 0 then tw_E sc d 154 17 [x0, x1] st g mi mr Q else tw_E sc d 154 13 [x0, x1] st g mi mr Q := tw_x_if_eq td_154_10 (by decide)
theorem td_154_13 : decode (tw_cd 154) 13 = .ok (.iconst (-1), 1) := by decide +kernel
theorem tz_154_13 : tw_E sc d 154 13 [x0, x1] st g mi mr Q = tw_E sc d 154 14 [x0, x1] (.int (-1) :: st) g mi mr Q := tw_x_iconst td_154_13 (by decide)
theorem td_154_14 : decode (tw_cd 154) 14 = .ok (.goto 17, 3) := by decide +kernel
theorem tz_154_14 : tw_E sc d 154 14 [x0, x1] st g mi mr Q = tw_E sc d 154 31 [x0, x1] st g mi mr Q := tw_x_goto td_154_14 (by decide)
theorem td_154_17 : decode (tw_cd 154) 17 = .ok (.aload_n 0, 1) := by decide +kernel
theorem tz_154_17 : tw_E sc d 154 17 [some (.ref a), x1] st g mi mr Q = tw_E sc d 154 18 [some (.ref a), x1] (.ref a :: st) g mi mr Q := tw_x_aload_n td_154_17 rfl
theorem td_154_18 : decode (tw_cd 154) 18 = .ok (.getfield 56, 3) := by decide +kernel
theorem tz_154_18 : tw_E sc d 154 18 [x0, x1] (.ref a :: st) g mi mr Q = (tw_kd g a = 10 ∧ tw_E sc d 154 21 [x0, x1] (va_rf (mr a 22) :: st) g mi mr Q) := tw_x_getr td_154_18 to_154 tf_10_56 (trf_10_22)
theorem td_154_21 : decode (tw_cd 154) 21 = .ok (.iload_n 1, 1) := by decide +kernel
theorem tz_154_21 : tw_E sc d 154 21 [x0, some (.int v)] st g mi mr Q = tw_E sc d 154 22 [x0, some (.int v)] (.int v :: st) g mi mr Q := tw_x_iload_n td_154_21 rfl
theorem td_154_22 : decode (tw_cd 154) 22 = .ok (.baload, 1) := by decide +kernel
theorem tz_154_22 : tw_E sc d 154 22 [x0, x1] (.int v :: .ref a :: st) g mi mr Q = ((tw_kd g a = 21 ∧ vp_in v (tw_ln g a)) ∧ tw_E sc d 154 23 [x0, x1] (.int (mi a v.toNatClampNeg) :: st) g mi mr Q) := tw_x_zald td_154_22
theorem td_154_23 : decode (tw_cd 154) 23 = .ok (.ifCond .eq 7, 3) := by decide +kernel
theorem tz_154_23 : tw_E sc d 154 23 [x0, x1] (.int v :: st) g mi mr Q = if v = 0 then tw_E sc d 154 30 [x0, x1] st g mi mr Q else tw_E sc d 154 26 [x0, x1] st g mi mr Q := tw_x_if_eq td_154_23 (by decide)
theorem td_154_26 : decode (tw_cd 154) 26 = .ok (.iconst 1, 1) := by decide +kernel
theorem tz_154_26 : tw_E sc d 154 26 [x0, x1] st g mi mr Q = tw_E sc d 154 27 [x0, x1] (.int 1 :: st) g mi mr Q := tw_x_iconst td_154_26 (by decide)
theorem td_154_27 : decode (tw_cd 154) 27 = .ok (.goto 4, 3) := by decide +kernel
theorem tz_154_27 : tw_E sc d 154 27 [x0, x1] st g mi mr Q = tw_E sc d 154 31 [x0, x1] st g mi mr Q := tw_x_goto td_154_27 (by decide)
theorem td_154_30 : decode (tw_cd 154) 30 = .ok (.iconst 0, 1) := by decide +kernel
theorem tz_154_30 : tw_E sc d 154 30 [x0, x1] st g mi mr Q = tw_E sc d 154 31 [x0, x1] (.int 0 :: st) g mi mr Q := tw_x_iconst td_154_30 (by decide)
theorem td_154_31 : decode (tw_cd 154) 31 = .ok (.ireturn, 1) := by decide +kernel
theorem tz_154_31 : tw_E sc d 154 31 [x0, x1] ([.int v]) g mi mr Q = Q (some (.int v)) g mi mr := tw_x_iret td_154_31 tr_154
end tz_154
-- 155: Mo_tickOf
section tz_155
variable {sc : Nat × (Nat → Int32)} {d : Nat} {x0 x1 x2 x3 : Option Value} {st : List Value} {g : tw_G} {mi : tw_I} {mr : tw_Q} {Q : Option Value → tw_G → tw_I → tw_Q → Prop} {v w u : Int32} {a b : Nat} {j h : Int64} {s1 s2 s3 s4 : Value}
theorem td_155_0 : decode (tw_cd 155) 0 = .ok (.iconst 0, 1) := by decide +kernel
theorem tz_155_0 : tw_E sc d 155 0 [x0, x1, x2, x3] st g mi mr Q = tw_E sc d 155 1 [x0, x1, x2, x3] (.int 0 :: st) g mi mr Q := tw_x_iconst td_155_0 (by decide)
theorem td_155_1 : decode (tw_cd 155) 1 = .ok (.istore_n 2, 1) := by decide +kernel
theorem tz_155_1 : tw_E sc d 155 1 [x0, x1, x2, x3] (.int v :: st) g mi mr Q = tw_E sc d 155 2 [x0, x1, some (.int v), x3] st g mi mr Q := tw_x_istore_n td_155_1 tp_155 rfl
theorem td_155_2 : decode (tw_cd 155) 2 = .ok (.iconst 0, 1) := by decide +kernel
theorem tz_155_2 : tw_E sc d 155 2 [x0, x1, x2, x3] st g mi mr Q = tw_E sc d 155 3 [x0, x1, x2, x3] (.int 0 :: st) g mi mr Q := tw_x_iconst td_155_2 (by decide)
theorem td_155_3 : decode (tw_cd 155) 3 = .ok (.istore_n 3, 1) := by decide +kernel
theorem tz_155_3 : tw_E sc d 155 3 [x0, x1, x2, x3] (.int v :: st) g mi mr Q = tw_E sc d 155 4 [x0, x1, x2, some (.int v)] st g mi mr Q := tw_x_istore_n td_155_3 tp_155 rfl
theorem td_155_4 : decode (tw_cd 155) 4 = .ok (.iload_n 3, 1) := by decide +kernel
theorem tz_155_4 : tw_E sc d 155 4 [x0, x1, x2, some (.int v)] st g mi mr Q = tw_E sc d 155 5 [x0, x1, x2, some (.int v)] (.int v :: st) g mi mr Q := tw_x_iload_n td_155_4 rfl
theorem td_155_5 : decode (tw_cd 155) 5 = .ok (.aload_n 0, 1) := by decide +kernel
theorem tz_155_5 : tw_E sc d 155 5 [some (.ref a), x1, x2, x3] st g mi mr Q = tw_E sc d 155 6 [some (.ref a), x1, x2, x3] (.ref a :: st) g mi mr Q := tw_x_aload_n td_155_5 rfl
theorem td_155_6 : decode (tw_cd 155) 6 = .ok (.getfield 185, 3) := by decide +kernel
theorem tz_155_6 : tw_E sc d 155 6 [x0, x1, x2, x3] (.ref a :: st) g mi mr Q = (tw_kd g a = 10 ∧ tw_E sc d 155 9 [x0, x1, x2, x3] (.int (mi a 20) :: st) g mi mr Q) := tw_x_geti td_155_6 to_155 tf_10_185 (trf_10_20)
theorem td_155_9 : decode (tw_cd 155) 9 = .ok (.if_icmp .ge 28, 3) := by decide +kernel
theorem tz_155_9 : tw_E sc d 155 9 [x0, x1, x2, x3] (.int w :: .int v :: st) g mi mr Q = if w ≤ v then tw_E sc d 155 37 [x0, x1, x2, x3] st g mi mr Q else tw_E sc d 155 12 [x0, x1, x2, x3] st g mi mr Q := tw_x_ic_ge td_155_9 (by decide)
theorem td_155_12 : decode (tw_cd 155) 12 = .ok (.aload_n 0, 1) := by decide +kernel
theorem tz_155_12 : tw_E sc d 155 12 [some (.ref a), x1, x2, x3] st g mi mr Q = tw_E sc d 155 13 [some (.ref a), x1, x2, x3] (.ref a :: st) g mi mr Q := tw_x_aload_n td_155_12 rfl
theorem td_155_13 : decode (tw_cd 155) 13 = .ok (.getfield 56, 3) := by decide +kernel
theorem tz_155_13 : tw_E sc d 155 13 [x0, x1, x2, x3] (.ref a :: st) g mi mr Q = (tw_kd g a = 10 ∧ tw_E sc d 155 16 [x0, x1, x2, x3] (va_rf (mr a 22) :: st) g mi mr Q) := tw_x_getr td_155_13 to_155 tf_10_56 (trf_10_22)
theorem td_155_16 : decode (tw_cd 155) 16 = .ok (.iload_n 3, 1) := by decide +kernel
theorem tz_155_16 : tw_E sc d 155 16 [x0, x1, x2, some (.int v)] st g mi mr Q = tw_E sc d 155 17 [x0, x1, x2, some (.int v)] (.int v :: st) g mi mr Q := tw_x_iload_n td_155_16 rfl
theorem td_155_17 : decode (tw_cd 155) 17 = .ok (.baload, 1) := by decide +kernel
theorem tz_155_17 : tw_E sc d 155 17 [x0, x1, x2, x3] (.int v :: .ref a :: st) g mi mr Q = ((tw_kd g a = 21 ∧ vp_in v (tw_ln g a)) ∧ tw_E sc d 155 18 [x0, x1, x2, x3] (.int (mi a v.toNatClampNeg) :: st) g mi mr Q) := tw_x_zald td_155_17
theorem td_155_18 : decode (tw_cd 155) 18 = .ok (.ifCond .eq 13, 3) := by decide +kernel
theorem tz_155_18 : tw_E sc d 155 18 [x0, x1, x2, x3] (.int v :: st) g mi mr Q = if v = 0 then tw_E sc d 155 31 [x0, x1, x2, x3] st g mi mr Q else tw_E sc d 155 21 [x0, x1, x2, x3] st g mi mr Q := tw_x_if_eq td_155_18 (by decide)
theorem td_155_21 : decode (tw_cd 155) 21 = .ok (.iload_n 2, 1) := by decide +kernel
theorem tz_155_21 : tw_E sc d 155 21 [x0, x1, some (.int v), x3] st g mi mr Q = tw_E sc d 155 22 [x0, x1, some (.int v), x3] (.int v :: st) g mi mr Q := tw_x_iload_n td_155_21 rfl
theorem td_155_22 : decode (tw_cd 155) 22 = .ok (.iload_n 1, 1) := by decide +kernel
theorem tz_155_22 : tw_E sc d 155 22 [x0, some (.int v), x2, x3] st g mi mr Q = tw_E sc d 155 23 [x0, some (.int v), x2, x3] (.int v :: st) g mi mr Q := tw_x_iload_n td_155_22 rfl
theorem td_155_23 : decode (tw_cd 155) 23 = .ok (.if_icmp .ne 5, 3) := by decide +kernel
theorem tz_155_23 : tw_E sc d 155 23 [x0, x1, x2, x3] (.int w :: .int v :: st) g mi mr Q = if ¬ v = w then tw_E sc d 155 28 [x0, x1, x2, x3] st g mi mr Q else tw_E sc d 155 26 [x0, x1, x2, x3] st g mi mr Q := tw_x_ic_ne td_155_23 (by decide)
theorem td_155_26 : decode (tw_cd 155) 26 = .ok (.iload_n 3, 1) := by decide +kernel
theorem tz_155_26 : tw_E sc d 155 26 [x0, x1, x2, some (.int v)] st g mi mr Q = tw_E sc d 155 27 [x0, x1, x2, some (.int v)] (.int v :: st) g mi mr Q := tw_x_iload_n td_155_26 rfl
theorem td_155_27 : decode (tw_cd 155) 27 = .ok (.ireturn, 1) := by decide +kernel
theorem tz_155_27 : tw_E sc d 155 27 [x0, x1, x2, x3] ([.int v]) g mi mr Q = Q (some (.int v)) g mi mr := tw_x_iret td_155_27 tr_155
theorem td_155_28 : decode (tw_cd 155) 28 = .ok (.iinc 2 1, 3) := by decide +kernel
theorem tz_155_28 : tw_E sc d 155 28 [x0, x1, some (.int v), x3] st g mi mr Q = tw_E sc d 155 31 [x0, x1, some (.int (v + 1)), x3] st g mi mr Q := tw_x_iinc td_155_28 rfl (by first | rfl | (exact congrArg (v + ·) (by decide))) tp_155 rfl
theorem td_155_31 : decode (tw_cd 155) 31 = .ok (.iinc 3 1, 3) := by decide +kernel
theorem tz_155_31 : tw_E sc d 155 31 [x0, x1, x2, some (.int v)] st g mi mr Q = tw_E sc d 155 34 [x0, x1, x2, some (.int (v + 1))] st g mi mr Q := tw_x_iinc td_155_31 rfl (by first | rfl | (exact congrArg (v + ·) (by decide))) tp_155 rfl
theorem td_155_34 : decode (tw_cd 155) 34 = .ok (.goto (-30), 3) := by decide +kernel
theorem tz_155_34 : tw_E sc d 155 34 [x0, x1, x2, x3] st g mi mr Q = tw_E sc d 155 4 [x0, x1, x2, x3] st g mi mr Q := tw_x_goto td_155_34 (by decide)
theorem td_155_37 : decode (tw_cd 155) 37 = .ok (.bipush (-9), 2) := by decide +kernel
theorem tz_155_37 : tw_E sc d 155 37 [x0, x1, x2, x3] st g mi mr Q = tw_E sc d 155 39 [x0, x1, x2, x3] (.int (-9) :: st) g mi mr Q := tw_x_bipush td_155_37 (by decide)
theorem td_155_39 : decode (tw_cd 155) 39 = .ok (.ireturn, 1) := by decide +kernel
theorem tz_155_39 : tw_E sc d 155 39 [x0, x1, x2, x3] ([.int v]) g mi mr Q = Q (some (.int v)) g mi mr := tw_x_iret td_155_39 tr_155
end tz_155
-- 156: Mo_when
section tz_156
variable {sc : Nat × (Nat → Int32)} {d : Nat} {x0 x1 : Option Value} {st : List Value} {g : tw_G} {mi : tw_I} {mr : tw_Q} {Q : Option Value → tw_G → tw_I → tw_Q → Prop} {v w u : Int32} {a b : Nat} {j h : Int64} {s1 s2 s3 s4 : Value}
theorem td_156_0 : decode (tw_cd 156) 0 = .ok (.aload_n 0, 1) := by decide +kernel
theorem tz_156_0 : tw_E sc d 156 0 [some (.ref a), x1] st g mi mr Q = tw_E sc d 156 1 [some (.ref a), x1] (.ref a :: st) g mi mr Q := tw_x_aload_n td_156_0 rfl
theorem td_156_1 : decode (tw_cd 156) 1 = .ok (.iconst 0, 1) := by decide +kernel
theorem tz_156_1 : tw_E sc d 156 1 [x0, x1] st g mi mr Q = tw_E sc d 156 2 [x0, x1] (.int 0 :: st) g mi mr Q := tw_x_iconst td_156_1 (by decide)
theorem td_156_2 : decode (tw_cd 156) 2 = .ok (.putfield 83, 3) := by decide +kernel
theorem tz_156_2 : tw_E sc d 156 2 [x0, x1] (.int v :: .ref a :: st) g mi mr Q = (tw_kd g a = 10 ∧ tw_E sc d 156 5 [x0, x1] st g (tw_st mi a (tw_st (mi a) 0 v)) mr Q) := tw_x_puti td_156_2 to_156 tf_10_83 rfl rfl
theorem td_156_5 : decode (tw_cd 156) 5 = .ok (.aload_n 0, 1) := by decide +kernel
theorem tz_156_5 : tw_E sc d 156 5 [some (.ref a), x1] st g mi mr Q = tw_E sc d 156 6 [some (.ref a), x1] (.ref a :: st) g mi mr Q := tw_x_aload_n td_156_5 rfl
theorem td_156_6 : decode (tw_cd 156) 6 = .ok (.iload_n 1, 1) := by decide +kernel
theorem tz_156_6 : tw_E sc d 156 6 [x0, some (.int v)] st g mi mr Q = tw_E sc d 156 7 [x0, some (.int v)] (.int v :: st) g mi mr Q := tw_x_iload_n td_156_6 rfl
theorem td_156_7 : decode (tw_cd 156) 7 = .ok (.invokevirtual 213, 3) := by decide +kernel
theorem tz_156_7 {a0 : Int32} : tw_E sc (d + 1) 156 7 [x0, x1] ([.int a0, .ref a]) g mi mr Q = (tw_kd g a = 10 ∧ tw_E sc d 155 0 [some (.ref a), some (.int a0), none, none] [] g mi mr (tw_K sc (d + 1) 156 10 [x0, x1] [] Q)) := tw_x_cv (as := [.int a0]) (r := []) td_156_7 to_156 tc_10_213 to_155 rfl rfl rfl rfl
theorem td_156_10 : decode (tw_cd 156) 10 = .ok (.ireturn, 1) := by decide +kernel
theorem tz_156_10 : tw_E sc d 156 10 [x0, x1] ([.int v]) g mi mr Q = Q (some (.int v)) g mi mr := tw_x_iret td_156_10 tr_156
end tz_156
-- 157: Mo_at
section tz_157
variable {sc : Nat × (Nat → Int32)} {d : Nat} {x0 x1 : Option Value} {st : List Value} {g : tw_G} {mi : tw_I} {mr : tw_Q} {Q : Option Value → tw_G → tw_I → tw_Q → Prop} {v w u : Int32} {a b : Nat} {j h : Int64} {s1 s2 s3 s4 : Value}
theorem td_157_0 : decode (tw_cd 157) 0 = .ok (.aload_n 0, 1) := by decide +kernel
theorem tz_157_0 : tw_E sc d 157 0 [some (.ref a), x1] st g mi mr Q = tw_E sc d 157 1 [some (.ref a), x1] (.ref a :: st) g mi mr Q := tw_x_aload_n td_157_0 rfl
theorem td_157_1 : decode (tw_cd 157) 1 = .ok (.iconst 0, 1) := by decide +kernel
theorem tz_157_1 : tw_E sc d 157 1 [x0, x1] st g mi mr Q = tw_E sc d 157 2 [x0, x1] (.int 0 :: st) g mi mr Q := tw_x_iconst td_157_1 (by decide)
theorem td_157_2 : decode (tw_cd 157) 2 = .ok (.putfield 83, 3) := by decide +kernel
theorem tz_157_2 : tw_E sc d 157 2 [x0, x1] (.int v :: .ref a :: st) g mi mr Q = (tw_kd g a = 10 ∧ tw_E sc d 157 5 [x0, x1] st g (tw_st mi a (tw_st (mi a) 0 v)) mr Q) := tw_x_puti td_157_2 to_157 tf_10_83 rfl rfl
theorem td_157_5 : decode (tw_cd 157) 5 = .ok (.aload_n 0, 1) := by decide +kernel
theorem tz_157_5 : tw_E sc d 157 5 [some (.ref a), x1] st g mi mr Q = tw_E sc d 157 6 [some (.ref a), x1] (.ref a :: st) g mi mr Q := tw_x_aload_n td_157_5 rfl
theorem td_157_6 : decode (tw_cd 157) 6 = .ok (.iload_n 1, 1) := by decide +kernel
theorem tz_157_6 : tw_E sc d 157 6 [x0, some (.int v)] st g mi mr Q = tw_E sc d 157 7 [x0, some (.int v)] (.int v :: st) g mi mr Q := tw_x_iload_n td_157_6 rfl
theorem td_157_7 : decode (tw_cd 157) 7 = .ok (.invokevirtual 210, 3) := by decide +kernel
theorem tz_157_7 {a0 : Int32} : tw_E sc (d + 1) 157 7 [x0, x1] ([.int a0, .ref a]) g mi mr Q = (tw_kd g a = 10 ∧ tw_E sc d 153 0 [some (.ref a), some (.int a0)] [] g mi mr (tw_K sc (d + 1) 157 10 [x0, x1] [] Q)) := tw_x_cv (as := [.int a0]) (r := []) td_157_7 to_157 tc_10_210 to_153 rfl rfl rfl rfl
theorem td_157_10 : decode (tw_cd 157) 10 = .ok (.ifCond .eq 7, 3) := by decide +kernel
theorem tz_157_10 : tw_E sc d 157 10 [x0, x1] (.int v :: st) g mi mr Q = if v = 0 then tw_E sc d 157 17 [x0, x1] st g mi mr Q else tw_E sc d 157 13 [x0, x1] st g mi mr Q := tw_x_if_eq td_157_10 (by decide)
theorem td_157_13 : decode (tw_cd 157) 13 = .ok (.iconst (-1), 1) := by decide +kernel
theorem tz_157_13 : tw_E sc d 157 13 [x0, x1] st g mi mr Q = tw_E sc d 157 14 [x0, x1] (.int (-1) :: st) g mi mr Q := tw_x_iconst td_157_13 (by decide)
theorem td_157_14 : decode (tw_cd 157) 14 = .ok (.goto 9, 3) := by decide +kernel
theorem tz_157_14 : tw_E sc d 157 14 [x0, x1] st g mi mr Q = tw_E sc d 157 23 [x0, x1] st g mi mr Q := tw_x_goto td_157_14 (by decide)
theorem td_157_17 : decode (tw_cd 157) 17 = .ok (.aload_n 0, 1) := by decide +kernel
theorem tz_157_17 : tw_E sc d 157 17 [some (.ref a), x1] st g mi mr Q = tw_E sc d 157 18 [some (.ref a), x1] (.ref a :: st) g mi mr Q := tw_x_aload_n td_157_17 rfl
theorem td_157_18 : decode (tw_cd 157) 18 = .ok (.getfield 53, 3) := by decide +kernel
theorem tz_157_18 : tw_E sc d 157 18 [x0, x1] (.ref a :: st) g mi mr Q = (tw_kd g a = 10 ∧ tw_E sc d 157 21 [x0, x1] (va_rf (mr a 21) :: st) g mi mr Q) := tw_x_getr td_157_18 to_157 tf_10_53 (trf_10_21)
theorem td_157_21 : decode (tw_cd 157) 21 = .ok (.iload_n 1, 1) := by decide +kernel
theorem tz_157_21 : tw_E sc d 157 21 [x0, some (.int v)] st g mi mr Q = tw_E sc d 157 22 [x0, some (.int v)] (.int v :: st) g mi mr Q := tw_x_iload_n td_157_21 rfl
theorem td_157_22 : decode (tw_cd 157) 22 = .ok (.iaload, 1) := by decide +kernel
theorem tz_157_22 : tw_E sc d 157 22 [x0, x1] (.int v :: .ref a :: st) g mi mr Q = ((tw_kd g a = 20 ∧ vp_in v (tw_ln g a)) ∧ tw_E sc d 157 23 [x0, x1] (.int (mi a v.toNatClampNeg) :: st) g mi mr Q) := tw_x_iald td_157_22
theorem td_157_23 : decode (tw_cd 157) 23 = .ok (.ireturn, 1) := by decide +kernel
theorem tz_157_23 : tw_E sc d 157 23 [x0, x1] ([.int v]) g mi mr Q = Q (some (.int v)) g mi mr := tw_x_iret td_157_23 tr_157
end tz_157
-- 158: Mo_grab
section tz_158
variable {sc : Nat × (Nat → Int32)} {d : Nat} {x0 x1 x2 x3 x4 x5 : Option Value} {st : List Value} {g : tw_G} {mi : tw_I} {mr : tw_Q} {Q : Option Value → tw_G → tw_I → tw_Q → Prop} {v w u : Int32} {a b : Nat} {j h : Int64} {s1 s2 s3 s4 : Value}
theorem td_158_0 : decode (tw_cd 158) 0 = .ok (.aload_n 0, 1) := by decide +kernel
theorem tz_158_0 : tw_E sc d 158 0 [some (.ref a), x1, x2, x3, x4, x5] st g mi mr Q = tw_E sc d 158 1 [some (.ref a), x1, x2, x3, x4, x5] (.ref a :: st) g mi mr Q := tw_x_aload_n td_158_0 rfl
theorem td_158_1 : decode (tw_cd 158) 1 = .ok (.iconst 0, 1) := by decide +kernel
theorem tz_158_1 : tw_E sc d 158 1 [x0, x1, x2, x3, x4, x5] st g mi mr Q = tw_E sc d 158 2 [x0, x1, x2, x3, x4, x5] (.int 0 :: st) g mi mr Q := tw_x_iconst td_158_1 (by decide)
theorem td_158_2 : decode (tw_cd 158) 2 = .ok (.putfield 83, 3) := by decide +kernel
theorem tz_158_2 : tw_E sc d 158 2 [x0, x1, x2, x3, x4, x5] (.int v :: .ref a :: st) g mi mr Q = (tw_kd g a = 10 ∧ tw_E sc d 158 5 [x0, x1, x2, x3, x4, x5] st g (tw_st mi a (tw_st (mi a) 0 v)) mr Q) := tw_x_puti td_158_2 to_158 tf_10_83 rfl rfl
theorem td_158_5 : decode (tw_cd 158) 5 = .ok (.aload_n 0, 1) := by decide +kernel
theorem tz_158_5 : tw_E sc d 158 5 [some (.ref a), x1, x2, x3, x4, x5] st g mi mr Q = tw_E sc d 158 6 [some (.ref a), x1, x2, x3, x4, x5] (.ref a :: st) g mi mr Q := tw_x_aload_n td_158_5 rfl
theorem td_158_6 : decode (tw_cd 158) 6 = .ok (.iload_n 1, 1) := by decide +kernel
theorem tz_158_6 : tw_E sc d 158 6 [x0, some (.int v), x2, x3, x4, x5] st g mi mr Q = tw_E sc d 158 7 [x0, some (.int v), x2, x3, x4, x5] (.int v :: st) g mi mr Q := tw_x_iload_n td_158_6 rfl
theorem td_158_7 : decode (tw_cd 158) 7 = .ok (.invokevirtual 213, 3) := by decide +kernel
theorem tz_158_7 {a0 : Int32} : tw_E sc (d + 1) 158 7 [x0, x1, x2, x3, x4, x5] ([.int a0, .ref a]) g mi mr Q = (tw_kd g a = 10 ∧ tw_E sc d 155 0 [some (.ref a), some (.int a0), none, none] [] g mi mr (tw_K sc (d + 1) 158 10 [x0, x1, x2, x3, x4, x5] [] Q)) := tw_x_cv (as := [.int a0]) (r := []) td_158_7 to_158 tc_10_213 to_155 rfl rfl rfl rfl
theorem td_158_10 : decode (tw_cd 158) 10 = .ok (.istore 4, 2) := by decide +kernel
theorem tz_158_10 : tw_E sc d 158 10 [x0, x1, x2, x3, x4, x5] (.int v :: st) g mi mr Q = tw_E sc d 158 12 [x0, x1, x2, x3, some (.int v), x5] st g mi mr Q := tw_x_istore td_158_10 tp_158 rfl
theorem td_158_12 : decode (tw_cd 158) 12 = .ok (.iload 4, 2) := by decide +kernel
theorem tz_158_12 : tw_E sc d 158 12 [x0, x1, x2, x3, some (.int v), x5] st g mi mr Q = tw_E sc d 158 14 [x0, x1, x2, x3, some (.int v), x5] (.int v :: st) g mi mr Q := tw_x_iload td_158_12 rfl
theorem td_158_14 : decode (tw_cd 158) 14 = .ok (.bipush (-9), 2) := by decide +kernel
theorem tz_158_14 : tw_E sc d 158 14 [x0, x1, x2, x3, x4, x5] st g mi mr Q = tw_E sc d 158 16 [x0, x1, x2, x3, x4, x5] (.int (-9) :: st) g mi mr Q := tw_x_bipush td_158_14 (by decide)
theorem td_158_16 : decode (tw_cd 158) 16 = .ok (.if_icmp .ne 5, 3) := by decide +kernel
theorem tz_158_16 : tw_E sc d 158 16 [x0, x1, x2, x3, x4, x5] (.int w :: .int v :: st) g mi mr Q = if ¬ v = w then tw_E sc d 158 21 [x0, x1, x2, x3, x4, x5] st g mi mr Q else tw_E sc d 158 19 [x0, x1, x2, x3, x4, x5] st g mi mr Q := tw_x_ic_ne td_158_16 (by decide)
theorem td_158_19 : decode (tw_cd 158) 19 = .ok (.iconst (-1), 1) := by decide +kernel
theorem tz_158_19 : tw_E sc d 158 19 [x0, x1, x2, x3, x4, x5] st g mi mr Q = tw_E sc d 158 20 [x0, x1, x2, x3, x4, x5] (.int (-1) :: st) g mi mr Q := tw_x_iconst td_158_19 (by decide)
theorem td_158_20 : decode (tw_cd 158) 20 = .ok (.ireturn, 1) := by decide +kernel
theorem tz_158_20 : tw_E sc d 158 20 [x0, x1, x2, x3, x4, x5] ([.int v]) g mi mr Q = Q (some (.int v)) g mi mr := tw_x_iret td_158_20 tr_158
theorem td_158_21 : decode (tw_cd 158) 21 = .ok (.iload_n 2, 1) := by decide +kernel
theorem tz_158_21 : tw_E sc d 158 21 [x0, x1, some (.int v), x3, x4, x5] st g mi mr Q = tw_E sc d 158 22 [x0, x1, some (.int v), x3, x4, x5] (.int v :: st) g mi mr Q := tw_x_iload_n td_158_21 rfl
theorem td_158_22 : decode (tw_cd 158) 22 = .ok (.i2l, 1) := by decide +kernel
theorem tz_158_22 : tw_E sc d 158 22 [x0, x1, x2, x3, x4, x5] (.int v :: st) g mi mr Q = tw_E sc d 158 23 [x0, x1, x2, x3, x4, x5] (.long v.toInt64 :: st) g mi mr Q := tw_x_i2l td_158_22
theorem td_158_23 : decode (tw_cd 158) 23 = .ok (.lconst 0, 1) := by decide +kernel
theorem tz_158_23 : tw_E sc d 158 23 [x0, x1, x2, x3, x4, x5] st g mi mr Q = tw_E sc d 158 24 [x0, x1, x2, x3, x4, x5] (.long 0 :: st) g mi mr Q := tw_x_lconst td_158_23 (by decide)
theorem td_158_24 : decode (tw_cd 158) 24 = .ok (.ldc2_w 216, 3) := by decide +kernel
theorem tz_158_24 : tw_E sc d 158 24 [x0, x1, x2, x3, x4, x5] st g mi mr Q = tw_E sc d 158 27 [x0, x1, x2, x3, x4, x5] (.long 500 :: st) g mi mr Q := tw_x_ldl td_158_24 to_158 tl_10_216
theorem td_158_27 : decode (tw_cd 158) 27 = .ok (.invokestatic 96, 3) := by decide +kernel
theorem tz_158_27 {a0 : Int64} {a1 : Int64} {a2 : Int64} : tw_E sc (d + 1) 158 27 [x0, x1, x2, x3, x4, x5] ([.long a2, .long a1, .long a0]) g mi mr Q = tw_E sc d 126 0 [some (.long a0), none, some (.long a1), none, some (.long a2), none] [] g mi mr (tw_K sc (d + 1) 158 30 [x0, x1, x2, x3, x4, x5] [] Q) := tw_x_cs (as := [.long a0, .long a1, .long a2]) (r := []) td_158_27 to_158 tmn_10_96 tc_10_96 rfl rfl rfl rfl rfl
theorem td_158_30 : decode (tw_cd 158) 30 = .ok (.ifCond .eq 15, 3) := by decide +kernel
theorem tz_158_30 : tw_E sc d 158 30 [x0, x1, x2, x3, x4, x5] (.int v :: st) g mi mr Q = if v = 0 then tw_E sc d 158 45 [x0, x1, x2, x3, x4, x5] st g mi mr Q else tw_E sc d 158 33 [x0, x1, x2, x3, x4, x5] st g mi mr Q := tw_x_if_eq td_158_30 (by decide)
theorem td_158_33 : decode (tw_cd 158) 33 = .ok (.iload_n 3, 1) := by decide +kernel
theorem tz_158_33 : tw_E sc d 158 33 [x0, x1, x2, some (.int v), x4, x5] st g mi mr Q = tw_E sc d 158 34 [x0, x1, x2, some (.int v), x4, x5] (.int v :: st) g mi mr Q := tw_x_iload_n td_158_33 rfl
theorem td_158_34 : decode (tw_cd 158) 34 = .ok (.i2l, 1) := by decide +kernel
theorem tz_158_34 : tw_E sc d 158 34 [x0, x1, x2, x3, x4, x5] (.int v :: st) g mi mr Q = tw_E sc d 158 35 [x0, x1, x2, x3, x4, x5] (.long v.toInt64 :: st) g mi mr Q := tw_x_i2l td_158_34
theorem td_158_35 : decode (tw_cd 158) 35 = .ok (.lconst 0, 1) := by decide +kernel
theorem tz_158_35 : tw_E sc d 158 35 [x0, x1, x2, x3, x4, x5] st g mi mr Q = tw_E sc d 158 36 [x0, x1, x2, x3, x4, x5] (.long 0 :: st) g mi mr Q := tw_x_lconst td_158_35 (by decide)
theorem td_158_36 : decode (tw_cd 158) 36 = .ok (.ldc2_w 216, 3) := by decide +kernel
theorem tz_158_36 : tw_E sc d 158 36 [x0, x1, x2, x3, x4, x5] st g mi mr Q = tw_E sc d 158 39 [x0, x1, x2, x3, x4, x5] (.long 500 :: st) g mi mr Q := tw_x_ldl td_158_36 to_158 tl_10_216
theorem td_158_39 : decode (tw_cd 158) 39 = .ok (.invokestatic 96, 3) := by decide +kernel
theorem tz_158_39 {a0 : Int64} {a1 : Int64} {a2 : Int64} : tw_E sc (d + 1) 158 39 [x0, x1, x2, x3, x4, x5] ([.long a2, .long a1, .long a0]) g mi mr Q = tw_E sc d 126 0 [some (.long a0), none, some (.long a1), none, some (.long a2), none] [] g mi mr (tw_K sc (d + 1) 158 42 [x0, x1, x2, x3, x4, x5] [] Q) := tw_x_cs (as := [.long a0, .long a1, .long a2]) (r := []) td_158_39 to_158 tmn_10_96 tc_10_96 rfl rfl rfl rfl rfl
theorem td_158_42 : decode (tw_cd 158) 42 = .ok (.ifCond .ne 6, 3) := by decide +kernel
theorem tz_158_42 : tw_E sc d 158 42 [x0, x1, x2, x3, x4, x5] (.int v :: st) g mi mr Q = if ¬ v = 0 then tw_E sc d 158 48 [x0, x1, x2, x3, x4, x5] st g mi mr Q else tw_E sc d 158 45 [x0, x1, x2, x3, x4, x5] st g mi mr Q := tw_x_if_ne td_158_42 (by decide)
theorem td_158_45 : decode (tw_cd 158) 45 = .ok (.bipush (-2), 2) := by decide +kernel
theorem tz_158_45 : tw_E sc d 158 45 [x0, x1, x2, x3, x4, x5] st g mi mr Q = tw_E sc d 158 47 [x0, x1, x2, x3, x4, x5] (.int (-2) :: st) g mi mr Q := tw_x_bipush td_158_45 (by decide)
theorem td_158_47 : decode (tw_cd 158) 47 = .ok (.ireturn, 1) := by decide +kernel
theorem tz_158_47 : tw_E sc d 158 47 [x0, x1, x2, x3, x4, x5] ([.int v]) g mi mr Q = Q (some (.int v)) g mi mr := tw_x_iret td_158_47 tr_158
theorem td_158_48 : decode (tw_cd 158) 48 = .ok (.aload_n 0, 1) := by decide +kernel
theorem tz_158_48 : tw_E sc d 158 48 [some (.ref a), x1, x2, x3, x4, x5] st g mi mr Q = tw_E sc d 158 49 [some (.ref a), x1, x2, x3, x4, x5] (.ref a :: st) g mi mr Q := tw_x_aload_n td_158_48 rfl
theorem td_158_49 : decode (tw_cd 158) 49 = .ok (.iconst 0, 1) := by decide +kernel
theorem tz_158_49 : tw_E sc d 158 49 [x0, x1, x2, x3, x4, x5] st g mi mr Q = tw_E sc d 158 50 [x0, x1, x2, x3, x4, x5] (.int 0 :: st) g mi mr Q := tw_x_iconst td_158_49 (by decide)
theorem td_158_50 : decode (tw_cd 158) 50 = .ok (.putfield 218, 3) := by decide +kernel
theorem tz_158_50 : tw_E sc d 158 50 [x0, x1, x2, x3, x4, x5] (.int v :: .ref a :: st) g mi mr Q = (tw_kd g a = 10 ∧ tw_E sc d 158 53 [x0, x1, x2, x3, x4, x5] st g (tw_st mi a (tw_st (mi a) 23 v)) mr Q) := tw_x_puti td_158_50 to_158 tf_10_218 rfl rfl
theorem td_158_53 : decode (tw_cd 158) 53 = .ok (.iload 4, 2) := by decide +kernel
theorem tz_158_53 : tw_E sc d 158 53 [x0, x1, x2, x3, some (.int v), x5] st g mi mr Q = tw_E sc d 158 55 [x0, x1, x2, x3, some (.int v), x5] (.int v :: st) g mi mr Q := tw_x_iload td_158_53 rfl
theorem td_158_55 : decode (tw_cd 158) 55 = .ok (.iload_n 2, 1) := by decide +kernel
theorem tz_158_55 : tw_E sc d 158 55 [x0, x1, some (.int v), x3, x4, x5] st g mi mr Q = tw_E sc d 158 56 [x0, x1, some (.int v), x3, x4, x5] (.int v :: st) g mi mr Q := tw_x_iload_n td_158_55 rfl
theorem td_158_56 : decode (tw_cd 158) 56 = .ok (.isub, 1) := by decide +kernel
theorem tz_158_56 : tw_E sc d 158 56 [x0, x1, x2, x3, x4, x5] (.int w :: .int v :: st) g mi mr Q = tw_E sc d 158 57 [x0, x1, x2, x3, x4, x5] (.int (v - w) :: st) g mi mr Q := tw_x_isub td_158_56
theorem td_158_57 : decode (tw_cd 158) 57 = .ok (.istore 5, 2) := by decide +kernel
theorem tz_158_57 : tw_E sc d 158 57 [x0, x1, x2, x3, x4, x5] (.int v :: st) g mi mr Q = tw_E sc d 158 59 [x0, x1, x2, x3, x4, some (.int v)] st g mi mr Q := tw_x_istore td_158_57 tp_158 rfl
theorem td_158_59 : decode (tw_cd 158) 59 = .ok (.iload 5, 2) := by decide +kernel
theorem tz_158_59 : tw_E sc d 158 59 [x0, x1, x2, x3, x4, some (.int v)] st g mi mr Q = tw_E sc d 158 61 [x0, x1, x2, x3, x4, some (.int v)] (.int v :: st) g mi mr Q := tw_x_iload td_158_59 rfl
theorem td_158_61 : decode (tw_cd 158) 61 = .ok (.iload 4, 2) := by decide +kernel
theorem tz_158_61 : tw_E sc d 158 61 [x0, x1, x2, x3, some (.int v), x5] st g mi mr Q = tw_E sc d 158 63 [x0, x1, x2, x3, some (.int v), x5] (.int v :: st) g mi mr Q := tw_x_iload td_158_61 rfl
theorem td_158_63 : decode (tw_cd 158) 63 = .ok (.iload_n 3, 1) := by decide +kernel
theorem tz_158_63 : tw_E sc d 158 63 [x0, x1, x2, some (.int v), x4, x5] st g mi mr Q = tw_E sc d 158 64 [x0, x1, x2, some (.int v), x4, x5] (.int v :: st) g mi mr Q := tw_x_iload_n td_158_63 rfl
theorem td_158_64 : decode (tw_cd 158) 64 = .ok (.iadd, 1) := by decide +kernel
theorem tz_158_64 : tw_E sc d 158 64 [x0, x1, x2, x3, x4, x5] (.int w :: .int v :: st) g mi mr Q = tw_E sc d 158 65 [x0, x1, x2, x3, x4, x5] (.int (v + w) :: st) g mi mr Q := tw_x_iadd td_158_64
theorem td_158_65 : decode (tw_cd 158) 65 = .ok (.if_icmp .gt 44, 3) := by decide +kernel
theorem tz_158_65 : tw_E sc d 158 65 [x0, x1, x2, x3, x4, x5] (.int w :: .int v :: st) g mi mr Q = if w < v then tw_E sc d 158 109 [x0, x1, x2, x3, x4, x5] st g mi mr Q else tw_E sc d 158 68 [x0, x1, x2, x3, x4, x5] st g mi mr Q := tw_x_ic_gt td_158_65 (by decide)
theorem td_158_68 : decode (tw_cd 158) 68 = .ok (.aload_n 0, 1) := by decide +kernel
theorem tz_158_68 : tw_E sc d 158 68 [some (.ref a), x1, x2, x3, x4, x5] st g mi mr Q = tw_E sc d 158 69 [some (.ref a), x1, x2, x3, x4, x5] (.ref a :: st) g mi mr Q := tw_x_aload_n td_158_68 rfl
theorem td_158_69 : decode (tw_cd 158) 69 = .ok (.iload 5, 2) := by decide +kernel
theorem tz_158_69 : tw_E sc d 158 69 [x0, x1, x2, x3, x4, some (.int v)] st g mi mr Q = tw_E sc d 158 71 [x0, x1, x2, x3, x4, some (.int v)] (.int v :: st) g mi mr Q := tw_x_iload td_158_69 rfl
theorem td_158_71 : decode (tw_cd 158) 71 = .ok (.invokevirtual 210, 3) := by decide +kernel
theorem tz_158_71 {a0 : Int32} : tw_E sc (d + 1) 158 71 [x0, x1, x2, x3, x4, x5] ([.int a0, .ref a]) g mi mr Q = (tw_kd g a = 10 ∧ tw_E sc d 153 0 [some (.ref a), some (.int a0)] [] g mi mr (tw_K sc (d + 1) 158 74 [x0, x1, x2, x3, x4, x5] [] Q)) := tw_x_cv (as := [.int a0]) (r := []) td_158_71 to_158 tc_10_210 to_153 rfl rfl rfl rfl
theorem td_158_74 : decode (tw_cd 158) 74 = .ok (.ifCond .ne 29, 3) := by decide +kernel
theorem tz_158_74 : tw_E sc d 158 74 [x0, x1, x2, x3, x4, x5] (.int v :: st) g mi mr Q = if ¬ v = 0 then tw_E sc d 158 103 [x0, x1, x2, x3, x4, x5] st g mi mr Q else tw_E sc d 158 77 [x0, x1, x2, x3, x4, x5] st g mi mr Q := tw_x_if_ne td_158_74 (by decide)
theorem td_158_77 : decode (tw_cd 158) 77 = .ok (.aload_n 0, 1) := by decide +kernel
theorem tz_158_77 : tw_E sc d 158 77 [some (.ref a), x1, x2, x3, x4, x5] st g mi mr Q = tw_E sc d 158 78 [some (.ref a), x1, x2, x3, x4, x5] (.ref a :: st) g mi mr Q := tw_x_aload_n td_158_77 rfl
theorem td_158_78 : decode (tw_cd 158) 78 = .ok (.getfield 59, 3) := by decide +kernel
theorem tz_158_78 : tw_E sc d 158 78 [x0, x1, x2, x3, x4, x5] (.ref a :: st) g mi mr Q = (tw_kd g a = 10 ∧ tw_E sc d 158 81 [x0, x1, x2, x3, x4, x5] (va_rf (mr a 24) :: st) g mi mr Q) := tw_x_getr td_158_78 to_158 tf_10_59 (trf_10_24)
theorem td_158_81 : decode (tw_cd 158) 81 = .ok (.aload_n 0, 1) := by decide +kernel
theorem tz_158_81 : tw_E sc d 158 81 [some (.ref a), x1, x2, x3, x4, x5] st g mi mr Q = tw_E sc d 158 82 [some (.ref a), x1, x2, x3, x4, x5] (.ref a :: st) g mi mr Q := tw_x_aload_n td_158_81 rfl
theorem td_158_82 : decode (tw_cd 158) 82 = .ok (.getfield 218, 3) := by decide +kernel
theorem tz_158_82 : tw_E sc d 158 82 [x0, x1, x2, x3, x4, x5] (.ref a :: st) g mi mr Q = (tw_kd g a = 10 ∧ tw_E sc d 158 85 [x0, x1, x2, x3, x4, x5] (.int (mi a 23) :: st) g mi mr Q) := tw_x_geti td_158_82 to_158 tf_10_218 (trf_10_23)
theorem td_158_85 : decode (tw_cd 158) 85 = .ok (.aload_n 0, 1) := by decide +kernel
theorem tz_158_85 : tw_E sc d 158 85 [some (.ref a), x1, x2, x3, x4, x5] st g mi mr Q = tw_E sc d 158 86 [some (.ref a), x1, x2, x3, x4, x5] (.ref a :: st) g mi mr Q := tw_x_aload_n td_158_85 rfl
theorem td_158_86 : decode (tw_cd 158) 86 = .ok (.getfield 53, 3) := by decide +kernel
theorem tz_158_86 : tw_E sc d 158 86 [x0, x1, x2, x3, x4, x5] (.ref a :: st) g mi mr Q = (tw_kd g a = 10 ∧ tw_E sc d 158 89 [x0, x1, x2, x3, x4, x5] (va_rf (mr a 21) :: st) g mi mr Q) := tw_x_getr td_158_86 to_158 tf_10_53 (trf_10_21)
theorem td_158_89 : decode (tw_cd 158) 89 = .ok (.iload 5, 2) := by decide +kernel
theorem tz_158_89 : tw_E sc d 158 89 [x0, x1, x2, x3, x4, some (.int v)] st g mi mr Q = tw_E sc d 158 91 [x0, x1, x2, x3, x4, some (.int v)] (.int v :: st) g mi mr Q := tw_x_iload td_158_89 rfl
theorem td_158_91 : decode (tw_cd 158) 91 = .ok (.iaload, 1) := by decide +kernel
theorem tz_158_91 : tw_E sc d 158 91 [x0, x1, x2, x3, x4, x5] (.int v :: .ref a :: st) g mi mr Q = ((tw_kd g a = 20 ∧ vp_in v (tw_ln g a)) ∧ tw_E sc d 158 92 [x0, x1, x2, x3, x4, x5] (.int (mi a v.toNatClampNeg) :: st) g mi mr Q) := tw_x_iald td_158_91
theorem td_158_92 : decode (tw_cd 158) 92 = .ok (.iastore, 1) := by decide +kernel
theorem tz_158_92 : tw_E sc d 158 92 [x0, x1, x2, x3, x4, x5] (.int w :: .int v :: .ref a :: st) g mi mr Q = ((tw_kd g a = 20 ∧ vp_in v (tw_ln g a)) ∧ tw_E sc d 158 93 [x0, x1, x2, x3, x4, x5] st g (tw_st mi a (tw_st (mi a) v.toNatClampNeg w)) mr Q) := tw_x_iast td_158_92
theorem td_158_93 : decode (tw_cd 158) 93 = .ok (.aload_n 0, 1) := by decide +kernel
theorem tz_158_93 : tw_E sc d 158 93 [some (.ref a), x1, x2, x3, x4, x5] st g mi mr Q = tw_E sc d 158 94 [some (.ref a), x1, x2, x3, x4, x5] (.ref a :: st) g mi mr Q := tw_x_aload_n td_158_93 rfl
theorem td_158_94 : decode (tw_cd 158) 94 = .ok (.dup, 1) := by decide +kernel
theorem tz_158_94 : tw_E sc d 158 94 [x0, x1, x2, x3, x4, x5] (.ref a :: st) g mi mr Q = tw_E sc d 158 95 [x0, x1, x2, x3, x4, x5] (.ref a :: .ref a :: st) g mi mr Q := tw_x_dup_ref td_158_94
theorem td_158_95 : decode (tw_cd 158) 95 = .ok (.getfield 218, 3) := by decide +kernel
theorem tz_158_95 : tw_E sc d 158 95 [x0, x1, x2, x3, x4, x5] (.ref a :: st) g mi mr Q = (tw_kd g a = 10 ∧ tw_E sc d 158 98 [x0, x1, x2, x3, x4, x5] (.int (mi a 23) :: st) g mi mr Q) := tw_x_geti td_158_95 to_158 tf_10_218 (trf_10_23)
theorem td_158_98 : decode (tw_cd 158) 98 = .ok (.iconst 1, 1) := by decide +kernel
theorem tz_158_98 : tw_E sc d 158 98 [x0, x1, x2, x3, x4, x5] st g mi mr Q = tw_E sc d 158 99 [x0, x1, x2, x3, x4, x5] (.int 1 :: st) g mi mr Q := tw_x_iconst td_158_98 (by decide)
theorem td_158_99 : decode (tw_cd 158) 99 = .ok (.iadd, 1) := by decide +kernel
theorem tz_158_99 : tw_E sc d 158 99 [x0, x1, x2, x3, x4, x5] (.int w :: .int v :: st) g mi mr Q = tw_E sc d 158 100 [x0, x1, x2, x3, x4, x5] (.int (v + w) :: st) g mi mr Q := tw_x_iadd td_158_99
theorem td_158_100 : decode (tw_cd 158) 100 = .ok (.putfield 218, 3) := by decide +kernel
theorem tz_158_100 : tw_E sc d 158 100 [x0, x1, x2, x3, x4, x5] (.int v :: .ref a :: st) g mi mr Q = (tw_kd g a = 10 ∧ tw_E sc d 158 103 [x0, x1, x2, x3, x4, x5] st g (tw_st mi a (tw_st (mi a) 23 v)) mr Q) := tw_x_puti td_158_100 to_158 tf_10_218 rfl rfl
theorem td_158_103 : decode (tw_cd 158) 103 = .ok (.iinc 5 1, 3) := by decide +kernel
theorem tz_158_103 : tw_E sc d 158 103 [x0, x1, x2, x3, x4, some (.int v)] st g mi mr Q = tw_E sc d 158 106 [x0, x1, x2, x3, x4, some (.int (v + 1))] st g mi mr Q := tw_x_iinc td_158_103 rfl (by first | rfl | (exact congrArg (v + ·) (by decide))) tp_158 rfl
theorem td_158_106 : decode (tw_cd 158) 106 = .ok (.goto (-47), 3) := by decide +kernel
theorem tz_158_106 : tw_E sc d 158 106 [x0, x1, x2, x3, x4, x5] st g mi mr Q = tw_E sc d 158 59 [x0, x1, x2, x3, x4, x5] st g mi mr Q := tw_x_goto td_158_106 (by decide)
theorem td_158_109 : decode (tw_cd 158) 109 = .ok (.aload_n 0, 1) := by decide +kernel
theorem tz_158_109 : tw_E sc d 158 109 [some (.ref a), x1, x2, x3, x4, x5] st g mi mr Q = tw_E sc d 158 110 [some (.ref a), x1, x2, x3, x4, x5] (.ref a :: st) g mi mr Q := tw_x_aload_n td_158_109 rfl
theorem td_158_110 : decode (tw_cd 158) 110 = .ok (.getfield 218, 3) := by decide +kernel
theorem tz_158_110 : tw_E sc d 158 110 [x0, x1, x2, x3, x4, x5] (.ref a :: st) g mi mr Q = (tw_kd g a = 10 ∧ tw_E sc d 158 113 [x0, x1, x2, x3, x4, x5] (.int (mi a 23) :: st) g mi mr Q) := tw_x_geti td_158_110 to_158 tf_10_218 (trf_10_23)
theorem td_158_113 : decode (tw_cd 158) 113 = .ok (.ireturn, 1) := by decide +kernel
theorem tz_158_113 : tw_E sc d 158 113 [x0, x1, x2, x3, x4, x5] ([.int v]) g mi mr Q = Q (some (.int v)) g mi mr := tw_x_iret td_158_113 tr_158
end tz_158
-- 159: Mo_caught
section tz_159
variable {sc : Nat × (Nat → Int32)} {d : Nat} {x0 x1 : Option Value} {st : List Value} {g : tw_G} {mi : tw_I} {mr : tw_Q} {Q : Option Value → tw_G → tw_I → tw_Q → Prop} {v w u : Int32} {a b : Nat} {j h : Int64} {s1 s2 s3 s4 : Value}
theorem td_159_0 : decode (tw_cd 159) 0 = .ok (.aload_n 0, 1) := by decide +kernel
theorem tz_159_0 : tw_E sc d 159 0 [some (.ref a), x1] st g mi mr Q = tw_E sc d 159 1 [some (.ref a), x1] (.ref a :: st) g mi mr Q := tw_x_aload_n td_159_0 rfl
theorem td_159_1 : decode (tw_cd 159) 1 = .ok (.iconst 0, 1) := by decide +kernel
theorem tz_159_1 : tw_E sc d 159 1 [x0, x1] st g mi mr Q = tw_E sc d 159 2 [x0, x1] (.int 0 :: st) g mi mr Q := tw_x_iconst td_159_1 (by decide)
theorem td_159_2 : decode (tw_cd 159) 2 = .ok (.putfield 83, 3) := by decide +kernel
theorem tz_159_2 : tw_E sc d 159 2 [x0, x1] (.int v :: .ref a :: st) g mi mr Q = (tw_kd g a = 10 ∧ tw_E sc d 159 5 [x0, x1] st g (tw_st mi a (tw_st (mi a) 0 v)) mr Q) := tw_x_puti td_159_2 to_159 tf_10_83 rfl rfl
theorem td_159_5 : decode (tw_cd 159) 5 = .ok (.iload_n 1, 1) := by decide +kernel
theorem tz_159_5 : tw_E sc d 159 5 [x0, some (.int v)] st g mi mr Q = tw_E sc d 159 6 [x0, some (.int v)] (.int v :: st) g mi mr Q := tw_x_iload_n td_159_5 rfl
theorem td_159_6 : decode (tw_cd 159) 6 = .ok (.i2l, 1) := by decide +kernel
theorem tz_159_6 : tw_E sc d 159 6 [x0, x1] (.int v :: st) g mi mr Q = tw_E sc d 159 7 [x0, x1] (.long v.toInt64 :: st) g mi mr Q := tw_x_i2l td_159_6
theorem td_159_7 : decode (tw_cd 159) 7 = .ok (.lconst 0, 1) := by decide +kernel
theorem tz_159_7 : tw_E sc d 159 7 [x0, x1] st g mi mr Q = tw_E sc d 159 8 [x0, x1] (.long 0 :: st) g mi mr Q := tw_x_lconst td_159_7 (by decide)
theorem td_159_8 : decode (tw_cd 159) 8 = .ok (.aload_n 0, 1) := by decide +kernel
theorem tz_159_8 : tw_E sc d 159 8 [some (.ref a), x1] st g mi mr Q = tw_E sc d 159 9 [some (.ref a), x1] (.ref a :: st) g mi mr Q := tw_x_aload_n td_159_8 rfl
theorem td_159_9 : decode (tw_cd 159) 9 = .ok (.getfield 218, 3) := by decide +kernel
theorem tz_159_9 : tw_E sc d 159 9 [x0, x1] (.ref a :: st) g mi mr Q = (tw_kd g a = 10 ∧ tw_E sc d 159 12 [x0, x1] (.int (mi a 23) :: st) g mi mr Q) := tw_x_geti td_159_9 to_159 tf_10_218 (trf_10_23)
theorem td_159_12 : decode (tw_cd 159) 12 = .ok (.iconst 1, 1) := by decide +kernel
theorem tz_159_12 : tw_E sc d 159 12 [x0, x1] st g mi mr Q = tw_E sc d 159 13 [x0, x1] (.int 1 :: st) g mi mr Q := tw_x_iconst td_159_12 (by decide)
theorem td_159_13 : decode (tw_cd 159) 13 = .ok (.isub, 1) := by decide +kernel
theorem tz_159_13 : tw_E sc d 159 13 [x0, x1] (.int w :: .int v :: st) g mi mr Q = tw_E sc d 159 14 [x0, x1] (.int (v - w) :: st) g mi mr Q := tw_x_isub td_159_13
theorem td_159_14 : decode (tw_cd 159) 14 = .ok (.i2l, 1) := by decide +kernel
theorem tz_159_14 : tw_E sc d 159 14 [x0, x1] (.int v :: st) g mi mr Q = tw_E sc d 159 15 [x0, x1] (.long v.toInt64 :: st) g mi mr Q := tw_x_i2l td_159_14
theorem td_159_15 : decode (tw_cd 159) 15 = .ok (.invokestatic 96, 3) := by decide +kernel
theorem tz_159_15 {a0 : Int64} {a1 : Int64} {a2 : Int64} : tw_E sc (d + 1) 159 15 [x0, x1] ([.long a2, .long a1, .long a0]) g mi mr Q = tw_E sc d 126 0 [some (.long a0), none, some (.long a1), none, some (.long a2), none] [] g mi mr (tw_K sc (d + 1) 159 18 [x0, x1] [] Q) := tw_x_cs (as := [.long a0, .long a1, .long a2]) (r := []) td_159_15 to_159 tmn_10_96 tc_10_96 rfl rfl rfl rfl rfl
theorem td_159_18 : decode (tw_cd 159) 18 = .ok (.ifCond .eq 12, 3) := by decide +kernel
theorem tz_159_18 : tw_E sc d 159 18 [x0, x1] (.int v :: st) g mi mr Q = if v = 0 then tw_E sc d 159 30 [x0, x1] st g mi mr Q else tw_E sc d 159 21 [x0, x1] st g mi mr Q := tw_x_if_eq td_159_18 (by decide)
theorem td_159_21 : decode (tw_cd 159) 21 = .ok (.aload_n 0, 1) := by decide +kernel
theorem tz_159_21 : tw_E sc d 159 21 [some (.ref a), x1] st g mi mr Q = tw_E sc d 159 22 [some (.ref a), x1] (.ref a :: st) g mi mr Q := tw_x_aload_n td_159_21 rfl
theorem td_159_22 : decode (tw_cd 159) 22 = .ok (.getfield 59, 3) := by decide +kernel
theorem tz_159_22 : tw_E sc d 159 22 [x0, x1] (.ref a :: st) g mi mr Q = (tw_kd g a = 10 ∧ tw_E sc d 159 25 [x0, x1] (va_rf (mr a 24) :: st) g mi mr Q) := tw_x_getr td_159_22 to_159 tf_10_59 (trf_10_24)
theorem td_159_25 : decode (tw_cd 159) 25 = .ok (.iload_n 1, 1) := by decide +kernel
theorem tz_159_25 : tw_E sc d 159 25 [x0, some (.int v)] st g mi mr Q = tw_E sc d 159 26 [x0, some (.int v)] (.int v :: st) g mi mr Q := tw_x_iload_n td_159_25 rfl
theorem td_159_26 : decode (tw_cd 159) 26 = .ok (.iaload, 1) := by decide +kernel
theorem tz_159_26 : tw_E sc d 159 26 [x0, x1] (.int v :: .ref a :: st) g mi mr Q = ((tw_kd g a = 20 ∧ vp_in v (tw_ln g a)) ∧ tw_E sc d 159 27 [x0, x1] (.int (mi a v.toNatClampNeg) :: st) g mi mr Q) := tw_x_iald td_159_26
theorem td_159_27 : decode (tw_cd 159) 27 = .ok (.goto 5, 3) := by decide +kernel
theorem tz_159_27 : tw_E sc d 159 27 [x0, x1] st g mi mr Q = tw_E sc d 159 32 [x0, x1] st g mi mr Q := tw_x_goto td_159_27 (by decide)
theorem td_159_30 : decode (tw_cd 159) 30 = .ok (.bipush (-9), 2) := by decide +kernel
theorem tz_159_30 : tw_E sc d 159 30 [x0, x1] st g mi mr Q = tw_E sc d 159 32 [x0, x1] (.int (-9) :: st) g mi mr Q := tw_x_bipush td_159_30 (by decide)
theorem td_159_32 : decode (tw_cd 159) 32 = .ok (.ireturn, 1) := by decide +kernel
theorem tz_159_32 : tw_E sc d 159 32 [x0, x1] ([.int v]) g mi mr Q = Q (some (.int v)) g mi mr := tw_x_iret td_159_32 tr_159
end tz_159
-- 160: Mo_runsBy
section tz_160
variable {sc : Nat × (Nat → Int32)} {d : Nat} {x0 x1 x2 x3 : Option Value} {st : List Value} {g : tw_G} {mi : tw_I} {mr : tw_Q} {Q : Option Value → tw_G → tw_I → tw_Q → Prop} {v w u : Int32} {a b : Nat} {j h : Int64} {s1 s2 s3 s4 : Value}
theorem td_160_0 : decode (tw_cd 160) 0 = .ok (.iconst 0, 1) := by decide +kernel
theorem tz_160_0 : tw_E sc d 160 0 [x0, x1, x2, x3] st g mi mr Q = tw_E sc d 160 1 [x0, x1, x2, x3] (.int 0 :: st) g mi mr Q := tw_x_iconst td_160_0 (by decide)
theorem td_160_1 : decode (tw_cd 160) 1 = .ok (.istore_n 2, 1) := by decide +kernel
theorem tz_160_1 : tw_E sc d 160 1 [x0, x1, x2, x3] (.int v :: st) g mi mr Q = tw_E sc d 160 2 [x0, x1, some (.int v), x3] st g mi mr Q := tw_x_istore_n td_160_1 tp_160 rfl
theorem td_160_2 : decode (tw_cd 160) 2 = .ok (.iconst 0, 1) := by decide +kernel
theorem tz_160_2 : tw_E sc d 160 2 [x0, x1, x2, x3] st g mi mr Q = tw_E sc d 160 3 [x0, x1, x2, x3] (.int 0 :: st) g mi mr Q := tw_x_iconst td_160_2 (by decide)
theorem td_160_3 : decode (tw_cd 160) 3 = .ok (.istore_n 3, 1) := by decide +kernel
theorem tz_160_3 : tw_E sc d 160 3 [x0, x1, x2, x3] (.int v :: st) g mi mr Q = tw_E sc d 160 4 [x0, x1, x2, some (.int v)] st g mi mr Q := tw_x_istore_n td_160_3 tp_160 rfl
theorem td_160_4 : decode (tw_cd 160) 4 = .ok (.iload_n 3, 1) := by decide +kernel
theorem tz_160_4 : tw_E sc d 160 4 [x0, x1, x2, some (.int v)] st g mi mr Q = tw_E sc d 160 5 [x0, x1, x2, some (.int v)] (.int v :: st) g mi mr Q := tw_x_iload_n td_160_4 rfl
theorem td_160_5 : decode (tw_cd 160) 5 = .ok (.aload_n 0, 1) := by decide +kernel
theorem tz_160_5 : tw_E sc d 160 5 [some (.ref a), x1, x2, x3] st g mi mr Q = tw_E sc d 160 6 [some (.ref a), x1, x2, x3] (.ref a :: st) g mi mr Q := tw_x_aload_n td_160_5 rfl
theorem td_160_6 : decode (tw_cd 160) 6 = .ok (.getfield 218, 3) := by decide +kernel
theorem tz_160_6 : tw_E sc d 160 6 [x0, x1, x2, x3] (.ref a :: st) g mi mr Q = (tw_kd g a = 10 ∧ tw_E sc d 160 9 [x0, x1, x2, x3] (.int (mi a 23) :: st) g mi mr Q) := tw_x_geti td_160_6 to_160 tf_10_218 (trf_10_23)
theorem td_160_9 : decode (tw_cd 160) 9 = .ok (.if_icmp .ge 42, 3) := by decide +kernel
theorem tz_160_9 : tw_E sc d 160 9 [x0, x1, x2, x3] (.int w :: .int v :: st) g mi mr Q = if w ≤ v then tw_E sc d 160 51 [x0, x1, x2, x3] st g mi mr Q else tw_E sc d 160 12 [x0, x1, x2, x3] st g mi mr Q := tw_x_ic_ge td_160_9 (by decide)
theorem td_160_12 : decode (tw_cd 160) 12 = .ok (.iload_n 2, 1) := by decide +kernel
theorem tz_160_12 : tw_E sc d 160 12 [x0, x1, some (.int v), x3] st g mi mr Q = tw_E sc d 160 13 [x0, x1, some (.int v), x3] (.int v :: st) g mi mr Q := tw_x_iload_n td_160_12 rfl
theorem td_160_13 : decode (tw_cd 160) 13 = .ok (.iload_n 3, 1) := by decide +kernel
theorem tz_160_13 : tw_E sc d 160 13 [x0, x1, x2, some (.int v)] st g mi mr Q = tw_E sc d 160 14 [x0, x1, x2, some (.int v)] (.int v :: st) g mi mr Q := tw_x_iload_n td_160_13 rfl
theorem td_160_14 : decode (tw_cd 160) 14 = .ok (.ifCond .eq 24, 3) := by decide +kernel
theorem tz_160_14 : tw_E sc d 160 14 [x0, x1, x2, x3] (.int v :: st) g mi mr Q = if v = 0 then tw_E sc d 160 38 [x0, x1, x2, x3] st g mi mr Q else tw_E sc d 160 17 [x0, x1, x2, x3] st g mi mr Q := tw_x_if_eq td_160_14 (by decide)
theorem td_160_17 : decode (tw_cd 160) 17 = .ok (.aload_n 0, 1) := by decide +kernel
theorem tz_160_17 : tw_E sc d 160 17 [some (.ref a), x1, x2, x3] st g mi mr Q = tw_E sc d 160 18 [some (.ref a), x1, x2, x3] (.ref a :: st) g mi mr Q := tw_x_aload_n td_160_17 rfl
theorem td_160_18 : decode (tw_cd 160) 18 = .ok (.getfield 59, 3) := by decide +kernel
theorem tz_160_18 : tw_E sc d 160 18 [x0, x1, x2, x3] (.ref a :: st) g mi mr Q = (tw_kd g a = 10 ∧ tw_E sc d 160 21 [x0, x1, x2, x3] (va_rf (mr a 24) :: st) g mi mr Q) := tw_x_getr td_160_18 to_160 tf_10_59 (trf_10_24)
theorem td_160_21 : decode (tw_cd 160) 21 = .ok (.iload_n 3, 1) := by decide +kernel
theorem tz_160_21 : tw_E sc d 160 21 [x0, x1, x2, some (.int v)] st g mi mr Q = tw_E sc d 160 22 [x0, x1, x2, some (.int v)] (.int v :: st) g mi mr Q := tw_x_iload_n td_160_21 rfl
theorem td_160_22 : decode (tw_cd 160) 22 = .ok (.iaload, 1) := by decide +kernel
theorem tz_160_22 : tw_E sc d 160 22 [x0, x1, x2, x3] (.int v :: .ref a :: st) g mi mr Q = ((tw_kd g a = 20 ∧ vp_in v (tw_ln g a)) ∧ tw_E sc d 160 23 [x0, x1, x2, x3] (.int (mi a v.toNatClampNeg) :: st) g mi mr Q) := tw_x_iald td_160_22
theorem td_160_23 : decode (tw_cd 160) 23 = .ok (.iload_n 1, 1) := by decide +kernel
theorem tz_160_23 : tw_E sc d 160 23 [x0, some (.int v), x2, x3] st g mi mr Q = tw_E sc d 160 24 [x0, some (.int v), x2, x3] (.int v :: st) g mi mr Q := tw_x_iload_n td_160_23 rfl
theorem td_160_24 : decode (tw_cd 160) 24 = .ok (.iand, 1) := by decide +kernel
theorem tz_160_24 : tw_E sc d 160 24 [x0, x1, x2, x3] (.int w :: .int v :: st) g mi mr Q = tw_E sc d 160 25 [x0, x1, x2, x3] (.int (v &&& w) :: st) g mi mr Q := tw_x_iand td_160_24
theorem td_160_25 : decode (tw_cd 160) 25 = .ok (.aload_n 0, 1) := by decide +kernel
theorem tz_160_25 : tw_E sc d 160 25 [some (.ref a), x1, x2, x3] st g mi mr Q = tw_E sc d 160 26 [some (.ref a), x1, x2, x3] (.ref a :: st) g mi mr Q := tw_x_aload_n td_160_25 rfl
theorem td_160_26 : decode (tw_cd 160) 26 = .ok (.getfield 59, 3) := by decide +kernel
theorem tz_160_26 : tw_E sc d 160 26 [x0, x1, x2, x3] (.ref a :: st) g mi mr Q = (tw_kd g a = 10 ∧ tw_E sc d 160 29 [x0, x1, x2, x3] (va_rf (mr a 24) :: st) g mi mr Q) := tw_x_getr td_160_26 to_160 tf_10_59 (trf_10_24)
theorem td_160_29 : decode (tw_cd 160) 29 = .ok (.iload_n 3, 1) := by decide +kernel
theorem tz_160_29 : tw_E sc d 160 29 [x0, x1, x2, some (.int v)] st g mi mr Q = tw_E sc d 160 30 [x0, x1, x2, some (.int v)] (.int v :: st) g mi mr Q := tw_x_iload_n td_160_29 rfl
theorem td_160_30 : decode (tw_cd 160) 30 = .ok (.iconst 1, 1) := by decide +kernel
theorem tz_160_30 : tw_E sc d 160 30 [x0, x1, x2, x3] st g mi mr Q = tw_E sc d 160 31 [x0, x1, x2, x3] (.int 1 :: st) g mi mr Q := tw_x_iconst td_160_30 (by decide)
theorem td_160_31 : decode (tw_cd 160) 31 = .ok (.isub, 1) := by decide +kernel
theorem tz_160_31 : tw_E sc d 160 31 [x0, x1, x2, x3] (.int w :: .int v :: st) g mi mr Q = tw_E sc d 160 32 [x0, x1, x2, x3] (.int (v - w) :: st) g mi mr Q := tw_x_isub td_160_31
theorem td_160_32 : decode (tw_cd 160) 32 = .ok (.iaload, 1) := by decide +kernel
theorem tz_160_32 : tw_E sc d 160 32 [x0, x1, x2, x3] (.int v :: .ref a :: st) g mi mr Q = ((tw_kd g a = 20 ∧ vp_in v (tw_ln g a)) ∧ tw_E sc d 160 33 [x0, x1, x2, x3] (.int (mi a v.toNatClampNeg) :: st) g mi mr Q) := tw_x_iald td_160_32
theorem td_160_33 : decode (tw_cd 160) 33 = .ok (.iload_n 1, 1) := by decide +kernel
theorem tz_160_33 : tw_E sc d 160 33 [x0, some (.int v), x2, x3] st g mi mr Q = tw_E sc d 160 34 [x0, some (.int v), x2, x3] (.int v :: st) g mi mr Q := tw_x_iload_n td_160_33 rfl
theorem td_160_34 : decode (tw_cd 160) 34 = .ok (.iand, 1) := by decide +kernel
theorem tz_160_34 : tw_E sc d 160 34 [x0, x1, x2, x3] (.int w :: .int v :: st) g mi mr Q = tw_E sc d 160 35 [x0, x1, x2, x3] (.int (v &&& w) :: st) g mi mr Q := tw_x_iand td_160_34
theorem td_160_35 : decode (tw_cd 160) 35 = .ok (.if_icmp .eq 7, 3) := by decide +kernel
theorem tz_160_35 : tw_E sc d 160 35 [x0, x1, x2, x3] (.int w :: .int v :: st) g mi mr Q = if v = w then tw_E sc d 160 42 [x0, x1, x2, x3] st g mi mr Q else tw_E sc d 160 38 [x0, x1, x2, x3] st g mi mr Q := tw_x_ic_eq td_160_35 (by decide)
theorem td_160_38 : decode (tw_cd 160) 38 = .ok (.iconst 1, 1) := by decide +kernel
theorem tz_160_38 : tw_E sc d 160 38 [x0, x1, x2, x3] st g mi mr Q = tw_E sc d 160 39 [x0, x1, x2, x3] (.int 1 :: st) g mi mr Q := tw_x_iconst td_160_38 (by decide)
theorem td_160_39 : decode (tw_cd 160) 39 = .ok (.goto 4, 3) := by decide +kernel
theorem tz_160_39 : tw_E sc d 160 39 [x0, x1, x2, x3] st g mi mr Q = tw_E sc d 160 43 [x0, x1, x2, x3] st g mi mr Q := tw_x_goto td_160_39 (by decide)
theorem td_160_42 : decode (tw_cd 160) 42 = .ok (.iconst 0, 1) := by decide +kernel
theorem tz_160_42 : tw_E sc d 160 42 [x0, x1, x2, x3] st g mi mr Q = tw_E sc d 160 43 [x0, x1, x2, x3] (.int 0 :: st) g mi mr Q := tw_x_iconst td_160_42 (by decide)
theorem td_160_43 : decode (tw_cd 160) 43 = .ok (.iadd, 1) := by decide +kernel
theorem tz_160_43 : tw_E sc d 160 43 [x0, x1, x2, x3] (.int w :: .int v :: st) g mi mr Q = tw_E sc d 160 44 [x0, x1, x2, x3] (.int (v + w) :: st) g mi mr Q := tw_x_iadd td_160_43
theorem td_160_44 : decode (tw_cd 160) 44 = .ok (.istore_n 2, 1) := by decide +kernel
theorem tz_160_44 : tw_E sc d 160 44 [x0, x1, x2, x3] (.int v :: st) g mi mr Q = tw_E sc d 160 45 [x0, x1, some (.int v), x3] st g mi mr Q := tw_x_istore_n td_160_44 tp_160 rfl
theorem td_160_45 : decode (tw_cd 160) 45 = .ok (.iinc 3 1, 3) := by decide +kernel
theorem tz_160_45 : tw_E sc d 160 45 [x0, x1, x2, some (.int v)] st g mi mr Q = tw_E sc d 160 48 [x0, x1, x2, some (.int (v + 1))] st g mi mr Q := tw_x_iinc td_160_45 rfl (by first | rfl | (exact congrArg (v + ·) (by decide))) tp_160 rfl
theorem td_160_48 : decode (tw_cd 160) 48 = .ok (.goto (-44), 3) := by decide +kernel
theorem tz_160_48 : tw_E sc d 160 48 [x0, x1, x2, x3] st g mi mr Q = tw_E sc d 160 4 [x0, x1, x2, x3] st g mi mr Q := tw_x_goto td_160_48 (by decide)
theorem td_160_51 : decode (tw_cd 160) 51 = .ok (.iload_n 2, 1) := by decide +kernel
theorem tz_160_51 : tw_E sc d 160 51 [x0, x1, some (.int v), x3] st g mi mr Q = tw_E sc d 160 52 [x0, x1, some (.int v), x3] (.int v :: st) g mi mr Q := tw_x_iload_n td_160_51 rfl
theorem td_160_52 : decode (tw_cd 160) 52 = .ok (.ireturn, 1) := by decide +kernel
theorem tz_160_52 : tw_E sc d 160 52 [x0, x1, x2, x3] ([.int v]) g mi mr Q = Q (some (.int v)) g mi mr := tw_x_iret td_160_52 tr_160
end tz_160
-- 161: Mo_runs
section tz_161
variable {sc : Nat × (Nat → Int32)} {d : Nat} {x0 : Option Value} {st : List Value} {g : tw_G} {mi : tw_I} {mr : tw_Q} {Q : Option Value → tw_G → tw_I → tw_Q → Prop} {v w u : Int32} {a b : Nat} {j h : Int64} {s1 s2 s3 s4 : Value}
theorem td_161_0 : decode (tw_cd 161) 0 = .ok (.aload_n 0, 1) := by decide +kernel
theorem tz_161_0 : tw_E sc d 161 0 [some (.ref a)] st g mi mr Q = tw_E sc d 161 1 [some (.ref a)] (.ref a :: st) g mi mr Q := tw_x_aload_n td_161_0 rfl
theorem td_161_1 : decode (tw_cd 161) 1 = .ok (.iconst 0, 1) := by decide +kernel
theorem tz_161_1 : tw_E sc d 161 1 [x0] st g mi mr Q = tw_E sc d 161 2 [x0] (.int 0 :: st) g mi mr Q := tw_x_iconst td_161_1 (by decide)
theorem td_161_2 : decode (tw_cd 161) 2 = .ok (.putfield 83, 3) := by decide +kernel
theorem tz_161_2 : tw_E sc d 161 2 [x0] (.int v :: .ref a :: st) g mi mr Q = (tw_kd g a = 10 ∧ tw_E sc d 161 5 [x0] st g (tw_st mi a (tw_st (mi a) 0 v)) mr Q) := tw_x_puti td_161_2 to_161 tf_10_83 rfl rfl
theorem td_161_5 : decode (tw_cd 161) 5 = .ok (.aload_n 0, 1) := by decide +kernel
theorem tz_161_5 : tw_E sc d 161 5 [some (.ref a)] st g mi mr Q = tw_E sc d 161 6 [some (.ref a)] (.ref a :: st) g mi mr Q := tw_x_aload_n td_161_5 rfl
theorem td_161_6 : decode (tw_cd 161) 6 = .ok (.ldc 221, 2) := by decide +kernel
theorem tz_161_6 : tw_E sc d 161 6 [x0] st g mi mr Q = tw_E sc d 161 8 [x0] (.int 65535 :: st) g mi mr Q := tw_x_ldc td_161_6 to_161 tl_10_221
theorem td_161_8 : decode (tw_cd 161) 8 = .ok (.invokevirtual 222, 3) := by decide +kernel
theorem tz_161_8 {a0 : Int32} : tw_E sc (d + 1) 161 8 [x0] ([.int a0, .ref a]) g mi mr Q = (tw_kd g a = 10 ∧ tw_E sc d 160 0 [some (.ref a), some (.int a0), none, none] [] g mi mr (tw_K sc (d + 1) 161 11 [x0] [] Q)) := tw_x_cv (as := [.int a0]) (r := []) td_161_8 to_161 tc_10_222 to_160 rfl rfl rfl rfl
theorem td_161_11 : decode (tw_cd 161) 11 = .ok (.ireturn, 1) := by decide +kernel
theorem tz_161_11 : tw_E sc d 161 11 [x0] ([.int v]) g mi mr Q = Q (some (.int v)) g mi mr := tw_x_iret td_161_11 tr_161
end tz_161
