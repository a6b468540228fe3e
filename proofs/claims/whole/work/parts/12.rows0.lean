/-! a row for each instruction: printed by wip/whole/gen3.py -/
-- 0: Tl_init
section tz_0
variable {sc : Nat × (Nat → Int32)} {d : Nat} {x0 : Option Value} {st : List Value} {g : tw_G} {mi : tw_I} {mr : tw_Q} {Q : Option Value → tw_G → tw_I → tw_Q → Prop} {v w u : Int32} {a b : Nat} {j h : Int64} {s1 s2 s3 s4 : Value}
theorem td_0_0 : decode (tw_cd 0) 0 = .ok (.aload_n 0, 1) := by decide +kernel
theorem tz_0_0 : tw_E sc d 0 0 [some (.ref a)] st g mi mr Q = tw_E sc d 0 1 [some (.ref a)] (.ref a :: st) g mi mr Q := tw_x_aload_n td_0_0 rfl
theorem td_0_1 : decode (tw_cd 0) 1 = .ok (.invokespecial 3, 3) := by decide +kernel
theorem tz_0_1 : tw_E sc (d + 1) 0 1 [x0] (.ref a :: []) g mi mr Q = tw_E sc (d + 1) 0 4 [x0] [] g mi mr Q := tw_x_obj td_0_1 to_0 toi_0 (by simp)
theorem td_0_4 : decode (tw_cd 0) 4 = .ok (.aload_n 0, 1) := by decide +kernel
theorem tz_0_4 : tw_E sc d 0 4 [some (.ref a)] st g mi mr Q = tw_E sc d 0 5 [some (.ref a)] (.ref a :: st) g mi mr Q := tw_x_aload_n td_0_4 rfl
theorem td_0_5 : decode (tw_cd 0) 5 = .ok (.new 9, 3) := by decide +kernel
theorem tz_0_5 : tw_E sc d 0 5 [x0] st g mi mr Q = tw_E sc d 0 8 [x0] (.ref g.1 :: st) (tw_gn g 1 0 2) (tw_st mi g.1 (fun _ => 0)) (tw_st mr g.1 (fun _ => none)) Q := tw_x_new td_0_5 to_0 tn_0_9 rfl
theorem td_0_8 : decode (tw_cd 0) 8 = .ok (.dup, 1) := by decide +kernel
theorem tz_0_8 : tw_E sc d 0 8 [x0] (.ref a :: st) g mi mr Q = tw_E sc d 0 9 [x0] (.ref a :: .ref a :: st) g mi mr Q := tw_x_dup_ref td_0_8
theorem td_0_9 : decode (tw_cd 0) 9 = .ok (.invokespecial 11, 3) := by decide +kernel
theorem tz_0_9 : tw_E sc (d + 1) 0 9 [x0] ([.ref a, s1, s2]) g mi mr Q = tw_E sc d 35 0 [some (.ref a), none] [] g mi mr (tw_K sc (d + 1) 0 12 [x0] [s1, s2] Q) := tw_x_ci (as := []) (r := [s1, s2]) td_0_9 to_0 tin_0_11 tc_0_11 rfl rfl rfl rfl rfl
theorem td_0_12 : decode (tw_cd 0) 12 = .ok (.putfield 12, 3) := by decide +kernel
theorem tz_0_12 : tw_E sc d 0 12 [x0] (.ref b :: .ref a :: st) g mi mr Q = (tw_kd g a = 0 ∧ tw_E sc d 0 15 [x0] st g mi (tw_st mr a (tw_st (mr a) 7 (some b))) Q) := tw_x_putr td_0_12 to_0 tf_0_12 (Or.inl rfl) (trf_0_7)
theorem td_0_15 : decode (tw_cd 0) 15 = .ok (.aload_n 0, 1) := by decide +kernel
theorem tz_0_15 : tw_E sc d 0 15 [some (.ref a)] st g mi mr Q = tw_E sc d 0 16 [some (.ref a)] (.ref a :: st) g mi mr Q := tw_x_aload_n td_0_15 rfl
theorem td_0_16 : decode (tw_cd 0) 16 = .ok (.new 9, 3) := by decide +kernel
theorem tz_0_16 : tw_E sc d 0 16 [x0] st g mi mr Q = tw_E sc d 0 19 [x0] (.ref g.1 :: st) (tw_gn g 1 0 2) (tw_st mi g.1 (fun _ => 0)) (tw_st mr g.1 (fun _ => none)) Q := tw_x_new td_0_16 to_0 tn_0_9 rfl
theorem td_0_19 : decode (tw_cd 0) 19 = .ok (.dup, 1) := by decide +kernel
theorem tz_0_19 : tw_E sc d 0 19 [x0] (.ref a :: st) g mi mr Q = tw_E sc d 0 20 [x0] (.ref a :: .ref a :: st) g mi mr Q := tw_x_dup_ref td_0_19
theorem td_0_20 : decode (tw_cd 0) 20 = .ok (.invokespecial 11, 3) := by decide +kernel
theorem tz_0_20 : tw_E sc (d + 1) 0 20 [x0] ([.ref a, s1, s2]) g mi mr Q = tw_E sc d 35 0 [some (.ref a), none] [] g mi mr (tw_K sc (d + 1) 0 23 [x0] [s1, s2] Q) := tw_x_ci (as := []) (r := [s1, s2]) td_0_20 to_0 tin_0_11 tc_0_11 rfl rfl rfl rfl rfl
theorem td_0_23 : decode (tw_cd 0) 23 = .ok (.putfield 16, 3) := by decide +kernel
theorem tz_0_23 : tw_E sc d 0 23 [x0] (.ref b :: .ref a :: st) g mi mr Q = (tw_kd g a = 0 ∧ tw_E sc d 0 26 [x0] st g mi (tw_st mr a (tw_st (mr a) 8 (some b))) Q) := tw_x_putr td_0_23 to_0 tf_0_16 (Or.inl rfl) (trf_0_8)
theorem td_0_26 : decode (tw_cd 0) 26 = .ok (.aload_n 0, 1) := by decide +kernel
theorem tz_0_26 : tw_E sc d 0 26 [some (.ref a)] st g mi mr Q = tw_E sc d 0 27 [some (.ref a)] (.ref a :: st) g mi mr Q := tw_x_aload_n td_0_26 rfl
theorem td_0_27 : decode (tw_cd 0) 27 = .ok (.new 19, 3) := by decide +kernel
theorem tz_0_27 : tw_E sc d 0 27 [x0] st g mi mr Q = tw_E sc d 0 30 [x0] (.ref g.1 :: st) (tw_gn g 3 0 2) (tw_st mi g.1 (fun _ => 0)) (tw_st mr g.1 (fun _ => none)) Q := tw_x_new td_0_27 to_0 tn_0_19 rfl
theorem td_0_30 : decode (tw_cd 0) 30 = .ok (.dup, 1) := by decide +kernel
theorem tz_0_30 : tw_E sc d 0 30 [x0] (.ref a :: st) g mi mr Q = tw_E sc d 0 31 [x0] (.ref a :: .ref a :: st) g mi mr Q := tw_x_dup_ref td_0_30
theorem td_0_31 : decode (tw_cd 0) 31 = .ok (.invokespecial 21, 3) := by decide +kernel
theorem tz_0_31 : tw_E sc (d + 1) 0 31 [x0] ([.ref a, s1, s2]) g mi mr Q = tw_E sc d 58 0 [some (.ref a)] [] g mi mr (tw_K sc (d + 1) 0 34 [x0] [s1, s2] Q) := tw_x_ci (as := []) (r := [s1, s2]) td_0_31 to_0 tin_0_21 tc_0_21 rfl rfl rfl rfl rfl
theorem td_0_34 : decode (tw_cd 0) 34 = .ok (.putfield 22, 3) := by decide +kernel
theorem tz_0_34 : tw_E sc d 0 34 [x0] (.ref b :: .ref a :: st) g mi mr Q = (tw_kd g a = 0 ∧ tw_E sc d 0 37 [x0] st g mi (tw_st mr a (tw_st (mr a) 0 (some b))) Q) := tw_x_putr td_0_34 to_0 tf_0_22 (Or.inr ⟨rfl, rfl⟩) (trf_0_0)
theorem td_0_37 : decode (tw_cd 0) 37 = .ok (.aload_n 0, 1) := by decide +kernel
theorem tz_0_37 : tw_E sc d 0 37 [some (.ref a)] st g mi mr Q = tw_E sc d 0 38 [some (.ref a)] (.ref a :: st) g mi mr Q := tw_x_aload_n td_0_37 rfl
theorem td_0_38 : decode (tw_cd 0) 38 = .ok (.new 26, 3) := by decide +kernel
theorem tz_0_38 : tw_E sc d 0 38 [x0] st g mi mr Q = tw_E sc d 0 41 [x0] (.ref g.1 :: st) (tw_gn g 4 0 8) (tw_st mi g.1 (fun _ => 0)) (tw_st mr g.1 (fun _ => none)) Q := tw_x_new td_0_38 to_0 tn_0_26 rfl
theorem td_0_41 : decode (tw_cd 0) 41 = .ok (.dup, 1) := by decide +kernel
theorem tz_0_41 : tw_E sc d 0 41 [x0] (.ref a :: st) g mi mr Q = tw_E sc d 0 42 [x0] (.ref a :: .ref a :: st) g mi mr Q := tw_x_dup_ref td_0_41
theorem td_0_42 : decode (tw_cd 0) 42 = .ok (.aload_n 0, 1) := by decide +kernel
theorem tz_0_42 : tw_E sc d 0 42 [some (.ref a)] st g mi mr Q = tw_E sc d 0 43 [some (.ref a)] (.ref a :: st) g mi mr Q := tw_x_aload_n td_0_42 rfl
theorem td_0_43 : decode (tw_cd 0) 43 = .ok (.getfield 22, 3) := by decide +kernel
theorem tz_0_43 : tw_E sc d 0 43 [x0] (.ref a :: st) g mi mr Q = (tw_kd g a = 0 ∧ tw_E sc d 0 46 [x0] (va_rf (mr a 0) :: st) g mi mr Q) := tw_x_getr td_0_43 to_0 tf_0_22 (trf_0_0)
theorem td_0_46 : decode (tw_cd 0) 46 = .ok (.aload_n 0, 1) := by decide +kernel
theorem tz_0_46 : tw_E sc d 0 46 [some (.ref a)] st g mi mr Q = tw_E sc d 0 47 [some (.ref a)] (.ref a :: st) g mi mr Q := tw_x_aload_n td_0_46 rfl
theorem td_0_47 : decode (tw_cd 0) 47 = .ok (.getfield 16, 3) := by decide +kernel
theorem tz_0_47 : tw_E sc d 0 47 [x0] (.ref a :: st) g mi mr Q = (tw_kd g a = 0 ∧ tw_E sc d 0 50 [x0] (va_rf (mr a 8) :: st) g mi mr Q) := tw_x_getr td_0_47 to_0 tf_0_16 (trf_0_8)
theorem td_0_50 : decode (tw_cd 0) 50 = .ok (.invokespecial 28, 3) := by decide +kernel
theorem tz_0_50 {a0 : Nat} {a1 : Nat} : tw_E sc (d + 1) 0 50 [x0] ([.ref a1, .ref a0, .ref a, s1, s2]) g mi mr Q = tw_E sc d 66 0 [some (.ref a), some (.ref a0), some (.ref a1)] [] g mi mr (tw_K sc (d + 1) 0 53 [x0] [s1, s2] Q) := tw_x_ci (as := [.ref a0, .ref a1]) (r := [s1, s2]) td_0_50 to_0 tin_0_28 tc_0_28 rfl rfl rfl rfl rfl
theorem td_0_53 : decode (tw_cd 0) 53 = .ok (.putfield 31, 3) := by decide +kernel
theorem tz_0_53 : tw_E sc d 0 53 [x0] (.ref b :: .ref a :: st) g mi mr Q = (tw_kd g a = 0 ∧ tw_E sc d 0 56 [x0] st g mi (tw_st mr a (tw_st (mr a) 1 (some b))) Q) := tw_x_putr td_0_53 to_0 tf_0_31 (Or.inr ⟨rfl, rfl⟩) (trf_0_1)
theorem td_0_56 : decode (tw_cd 0) 56 = .ok (.aload_n 0, 1) := by decide +kernel
theorem tz_0_56 : tw_E sc d 0 56 [some (.ref a)] st g mi mr Q = tw_E sc d 0 57 [some (.ref a)] (.ref a :: st) g mi mr Q := tw_x_aload_n td_0_56 rfl
theorem td_0_57 : decode (tw_cd 0) 57 = .ok (.new 35, 3) := by decide +kernel
theorem tz_0_57 : tw_E sc d 0 57 [x0] st g mi mr Q = tw_E sc d 0 60 [x0] (.ref g.1 :: st) (tw_gn g 5 0 4) (tw_st mi g.1 (fun _ => 0)) (tw_st mr g.1 (fun _ => none)) Q := tw_x_new td_0_57 to_0 tn_0_35 rfl
theorem td_0_60 : decode (tw_cd 0) 60 = .ok (.dup, 1) := by decide +kernel
theorem tz_0_60 : tw_E sc d 0 60 [x0] (.ref a :: st) g mi mr Q = tw_E sc d 0 61 [x0] (.ref a :: .ref a :: st) g mi mr Q := tw_x_dup_ref td_0_60
theorem td_0_61 : decode (tw_cd 0) 61 = .ok (.invokespecial 37, 3) := by decide +kernel
theorem tz_0_61 : tw_E sc (d + 1) 0 61 [x0] ([.ref a, s1, s2]) g mi mr Q = tw_E sc d 88 0 [some (.ref a)] [] g mi mr (tw_K sc (d + 1) 0 64 [x0] [s1, s2] Q) := tw_x_ci (as := []) (r := [s1, s2]) td_0_61 to_0 tin_0_37 tc_0_37 rfl rfl rfl rfl rfl
theorem td_0_64 : decode (tw_cd 0) 64 = .ok (.putfield 38, 3) := by decide +kernel
theorem tz_0_64 : tw_E sc d 0 64 [x0] (.ref b :: .ref a :: st) g mi mr Q = (tw_kd g a = 0 ∧ tw_E sc d 0 67 [x0] st g mi (tw_st mr a (tw_st (mr a) 2 (some b))) Q) := tw_x_putr td_0_64 to_0 tf_0_38 (Or.inr ⟨rfl, rfl⟩) (trf_0_2)
theorem td_0_67 : decode (tw_cd 0) 67 = .ok (.aload_n 0, 1) := by decide +kernel
theorem tz_0_67 : tw_E sc d 0 67 [some (.ref a)] st g mi mr Q = tw_E sc d 0 68 [some (.ref a)] (.ref a :: st) g mi mr Q := tw_x_aload_n td_0_67 rfl
theorem td_0_68 : decode (tw_cd 0) 68 = .ok (.new 42, 3) := by decide +kernel
theorem tz_0_68 : tw_E sc d 0 68 [x0] st g mi mr Q = tw_E sc d 0 71 [x0] (.ref g.1 :: st) (tw_gn g 6 0 2) (tw_st mi g.1 (fun _ => 0)) (tw_st mr g.1 (fun _ => none)) Q := tw_x_new td_0_68 to_0 tn_0_42 rfl
theorem td_0_71 : decode (tw_cd 0) 71 = .ok (.dup, 1) := by decide +kernel
theorem tz_0_71 : tw_E sc d 0 71 [x0] (.ref a :: st) g mi mr Q = tw_E sc d 0 72 [x0] (.ref a :: .ref a :: st) g mi mr Q := tw_x_dup_ref td_0_71
theorem td_0_72 : decode (tw_cd 0) 72 = .ok (.invokespecial 44, 3) := by decide +kernel
theorem tz_0_72 : tw_E sc (d + 1) 0 72 [x0] ([.ref a, s1, s2]) g mi mr Q = tw_E sc d 99 0 [some (.ref a)] [] g mi mr (tw_K sc (d + 1) 0 75 [x0] [s1, s2] Q) := tw_x_ci (as := []) (r := [s1, s2]) td_0_72 to_0 tin_0_44 tc_0_44 rfl rfl rfl rfl rfl
theorem td_0_75 : decode (tw_cd 0) 75 = .ok (.putfield 45, 3) := by decide +kernel
theorem tz_0_75 : tw_E sc d 0 75 [x0] (.ref b :: .ref a :: st) g mi mr Q = (tw_kd g a = 0 ∧ tw_E sc d 0 78 [x0] st g mi (tw_st mr a (tw_st (mr a) 3 (some b))) Q) := tw_x_putr td_0_75 to_0 tf_0_45 (Or.inr ⟨rfl, rfl⟩) (trf_0_3)
theorem td_0_78 : decode (tw_cd 0) 78 = .ok (.aload_n 0, 1) := by decide +kernel
theorem tz_0_78 : tw_E sc d 0 78 [some (.ref a)] st g mi mr Q = tw_E sc d 0 79 [some (.ref a)] (.ref a :: st) g mi mr Q := tw_x_aload_n td_0_78 rfl
theorem td_0_79 : decode (tw_cd 0) 79 = .ok (.new 49, 3) := by decide +kernel
theorem tz_0_79 : tw_E sc d 0 79 [x0] st g mi mr Q = tw_E sc d 0 82 [x0] (.ref g.1 :: st) (tw_gn g 7 0 4) (tw_st mi g.1 (fun _ => 0)) (tw_st mr g.1 (fun _ => none)) Q := tw_x_new td_0_79 to_0 tn_0_49 rfl
theorem td_0_82 : decode (tw_cd 0) 82 = .ok (.dup, 1) := by decide +kernel
theorem tz_0_82 : tw_E sc d 0 82 [x0] (.ref a :: st) g mi mr Q = tw_E sc d 0 83 [x0] (.ref a :: .ref a :: st) g mi mr Q := tw_x_dup_ref td_0_82
theorem td_0_83 : decode (tw_cd 0) 83 = .ok (.invokespecial 51, 3) := by decide +kernel
theorem tz_0_83 : tw_E sc (d + 1) 0 83 [x0] ([.ref a, s1, s2]) g mi mr Q = tw_E sc d 108 0 [some (.ref a)] [] g mi mr (tw_K sc (d + 1) 0 86 [x0] [s1, s2] Q) := tw_x_ci (as := []) (r := [s1, s2]) td_0_83 to_0 tin_0_51 tc_0_51 rfl rfl rfl rfl rfl
theorem td_0_86 : decode (tw_cd 0) 86 = .ok (.putfield 52, 3) := by decide +kernel
theorem tz_0_86 : tw_E sc d 0 86 [x0] (.ref b :: .ref a :: st) g mi mr Q = (tw_kd g a = 0 ∧ tw_E sc d 0 89 [x0] st g mi (tw_st mr a (tw_st (mr a) 4 (some b))) Q) := tw_x_putr td_0_86 to_0 tf_0_52 (Or.inr ⟨rfl, rfl⟩) (trf_0_4)
theorem td_0_89 : decode (tw_cd 0) 89 = .ok (.aload_n 0, 1) := by decide +kernel
theorem tz_0_89 : tw_E sc d 0 89 [some (.ref a)] st g mi mr Q = tw_E sc d 0 90 [some (.ref a)] (.ref a :: st) g mi mr Q := tw_x_aload_n td_0_89 rfl
theorem td_0_90 : decode (tw_cd 0) 90 = .ok (.new 56, 3) := by decide +kernel
theorem tz_0_90 : tw_E sc d 0 90 [x0] st g mi mr Q = tw_E sc d 0 93 [x0] (.ref g.1 :: st) (tw_gn g 8 0 2) (tw_st mi g.1 (fun _ => 0)) (tw_st mr g.1 (fun _ => none)) Q := tw_x_new td_0_90 to_0 tn_0_56 rfl
theorem td_0_93 : decode (tw_cd 0) 93 = .ok (.dup, 1) := by decide +kernel
theorem tz_0_93 : tw_E sc d 0 93 [x0] (.ref a :: st) g mi mr Q = tw_E sc d 0 94 [x0] (.ref a :: .ref a :: st) g mi mr Q := tw_x_dup_ref td_0_93
theorem td_0_94 : decode (tw_cd 0) 94 = .ok (.aload_n 0, 1) := by decide +kernel
theorem tz_0_94 : tw_E sc d 0 94 [some (.ref a)] st g mi mr Q = tw_E sc d 0 95 [some (.ref a)] (.ref a :: st) g mi mr Q := tw_x_aload_n td_0_94 rfl
theorem td_0_95 : decode (tw_cd 0) 95 = .ok (.getfield 38, 3) := by decide +kernel
theorem tz_0_95 : tw_E sc d 0 95 [x0] (.ref a :: st) g mi mr Q = (tw_kd g a = 0 ∧ tw_E sc d 0 98 [x0] (va_rf (mr a 2) :: st) g mi mr Q) := tw_x_getr td_0_95 to_0 tf_0_38 (trf_0_2)
theorem td_0_98 : decode (tw_cd 0) 98 = .ok (.aload_n 0, 1) := by decide +kernel
theorem tz_0_98 : tw_E sc d 0 98 [some (.ref a)] st g mi mr Q = tw_E sc d 0 99 [some (.ref a)] (.ref a :: st) g mi mr Q := tw_x_aload_n td_0_98 rfl
theorem td_0_99 : decode (tw_cd 0) 99 = .ok (.getfield 52, 3) := by decide +kernel
theorem tz_0_99 : tw_E sc d 0 99 [x0] (.ref a :: st) g mi mr Q = (tw_kd g a = 0 ∧ tw_E sc d 0 102 [x0] (va_rf (mr a 4) :: st) g mi mr Q) := tw_x_getr td_0_99 to_0 tf_0_52 (trf_0_4)
theorem td_0_102 : decode (tw_cd 0) 102 = .ok (.invokespecial 58, 3) := by decide +kernel
theorem tz_0_102 {a0 : Nat} {a1 : Nat} : tw_E sc (d + 1) 0 102 [x0] ([.ref a1, .ref a0, .ref a, s1, s2]) g mi mr Q = tw_E sc d 116 0 [some (.ref a), some (.ref a0), some (.ref a1)] [] g mi mr (tw_K sc (d + 1) 0 105 [x0] [s1, s2] Q) := tw_x_ci (as := [.ref a0, .ref a1]) (r := [s1, s2]) td_0_102 to_0 tin_0_58 tc_0_58 rfl rfl rfl rfl rfl
theorem td_0_105 : decode (tw_cd 0) 105 = .ok (.putfield 61, 3) := by decide +kernel
theorem tz_0_105 : tw_E sc d 0 105 [x0] (.ref b :: .ref a :: st) g mi mr Q = (tw_kd g a = 0 ∧ tw_E sc d 0 108 [x0] st g mi (tw_st mr a (tw_st (mr a) 5 (some b))) Q) := tw_x_putr td_0_105 to_0 tf_0_61 (Or.inr ⟨rfl, rfl⟩) (trf_0_5)
theorem td_0_108 : decode (tw_cd 0) 108 = .ok (.aload_n 0, 1) := by decide +kernel
theorem tz_0_108 : tw_E sc d 0 108 [some (.ref a)] st g mi mr Q = tw_E sc d 0 109 [some (.ref a)] (.ref a :: st) g mi mr Q := tw_x_aload_n td_0_108 rfl
theorem td_0_109 : decode (tw_cd 0) 109 = .ok (.new 65, 3) := by decide +kernel
theorem tz_0_109 : tw_E sc d 0 109 [x0] st g mi mr Q = tw_E sc d 0 112 [x0] (.ref g.1 :: st) (tw_gn g 9 0 6) (tw_st mi g.1 (fun _ => 0)) (tw_st mr g.1 (fun _ => none)) Q := tw_x_new td_0_109 to_0 tn_0_65 rfl
theorem td_0_112 : decode (tw_cd 0) 112 = .ok (.dup, 1) := by decide +kernel
theorem tz_0_112 : tw_E sc d 0 112 [x0] (.ref a :: st) g mi mr Q = tw_E sc d 0 113 [x0] (.ref a :: .ref a :: st) g mi mr Q := tw_x_dup_ref td_0_112
theorem td_0_113 : decode (tw_cd 0) 113 = .ok (.aload_n 0, 1) := by decide +kernel
theorem tz_0_113 : tw_E sc d 0 113 [some (.ref a)] st g mi mr Q = tw_E sc d 0 114 [some (.ref a)] (.ref a :: st) g mi mr Q := tw_x_aload_n td_0_113 rfl
theorem td_0_114 : decode (tw_cd 0) 114 = .ok (.getfield 38, 3) := by decide +kernel
theorem tz_0_114 : tw_E sc d 0 114 [x0] (.ref a :: st) g mi mr Q = (tw_kd g a = 0 ∧ tw_E sc d 0 117 [x0] (va_rf (mr a 2) :: st) g mi mr Q) := tw_x_getr td_0_114 to_0 tf_0_38 (trf_0_2)
theorem td_0_117 : decode (tw_cd 0) 117 = .ok (.aload_n 0, 1) := by decide +kernel
theorem tz_0_117 : tw_E sc d 0 117 [some (.ref a)] st g mi mr Q = tw_E sc d 0 118 [some (.ref a)] (.ref a :: st) g mi mr Q := tw_x_aload_n td_0_117 rfl
theorem td_0_118 : decode (tw_cd 0) 118 = .ok (.getfield 52, 3) := by decide +kernel
theorem tz_0_118 : tw_E sc d 0 118 [x0] (.ref a :: st) g mi mr Q = (tw_kd g a = 0 ∧ tw_E sc d 0 121 [x0] (va_rf (mr a 4) :: st) g mi mr Q) := tw_x_getr td_0_118 to_0 tf_0_52 (trf_0_4)
theorem td_0_121 : decode (tw_cd 0) 121 = .ok (.invokespecial 67, 3) := by decide +kernel
theorem tz_0_121 {a0 : Nat} {a1 : Nat} : tw_E sc (d + 1) 0 121 [x0] ([.ref a1, .ref a0, .ref a, s1, s2]) g mi mr Q = tw_E sc d 121 0 [some (.ref a), some (.ref a0), some (.ref a1)] [] g mi mr (tw_K sc (d + 1) 0 124 [x0] [s1, s2] Q) := tw_x_ci (as := [.ref a0, .ref a1]) (r := [s1, s2]) td_0_121 to_0 tin_0_67 tc_0_67 rfl rfl rfl rfl rfl
theorem td_0_124 : decode (tw_cd 0) 124 = .ok (.putfield 68, 3) := by decide +kernel
theorem tz_0_124 : tw_E sc d 0 124 [x0] (.ref b :: .ref a :: st) g mi mr Q = (tw_kd g a = 0 ∧ tw_E sc d 0 127 [x0] st g mi (tw_st mr a (tw_st (mr a) 6 (some b))) Q) := tw_x_putr td_0_124 to_0 tf_0_68 (Or.inr ⟨rfl, rfl⟩) (trf_0_6)
theorem td_0_127 : decode (tw_cd 0) 127 = .ok (.return_, 1) := by decide +kernel
theorem tz_0_127 : tw_E sc d 0 127 [x0] [] g mi mr Q = Q none g mi mr := tw_x_vret td_0_127 tr_0
end tz_0
-- 1: Tl_feed
section tz_1
variable {sc : Nat × (Nat → Int32)} {d : Nat} {x0 x1 x2 : Option Value} {st : List Value} {g : tw_G} {mi : tw_I} {mr : tw_Q} {Q : Option Value → tw_G → tw_I → tw_Q → Prop} {v w u : Int32} {a b : Nat} {j h : Int64} {s1 s2 s3 s4 : Value}
theorem td_1_0 : decode (tw_cd 1) 0 = .ok (.aload_n 0, 1) := by decide +kernel
theorem tz_1_0 : tw_E sc d 1 0 [some (.ref a), x1, x2] st g mi mr Q = tw_E sc d 1 1 [some (.ref a), x1, x2] (.ref a :: st) g mi mr Q := tw_x_aload_n td_1_0 rfl
theorem td_1_1 : decode (tw_cd 1) 1 = .ok (.getfield 22, 3) := by decide +kernel
theorem tz_1_1 : tw_E sc d 1 1 [x0, x1, x2] (.ref a :: st) g mi mr Q = (tw_kd g a = 0 ∧ tw_E sc d 1 4 [x0, x1, x2] (va_rf (mr a 0) :: st) g mi mr Q) := tw_x_getr td_1_1 to_1 tf_0_22 (trf_0_0)
theorem td_1_4 : decode (tw_cd 1) 4 = .ok (.lload_n 1, 1) := by decide +kernel
theorem tz_1_4 : tw_E sc d 1 4 [x0, some (.long j), x2] st g mi mr Q = tw_E sc d 1 5 [x0, some (.long j), x2] (.long j :: st) g mi mr Q := tw_x_lload_n td_1_4 rfl
theorem td_1_5 : decode (tw_cd 1) 5 = .ok (.invokevirtual 72, 3) := by decide +kernel
theorem tz_1_5 {a0 : Int64} : tw_E sc (d + 1) 1 5 [x0, x1, x2] ([.long a0, .ref a]) g mi mr Q = (tw_kd g a = 3 ∧ tw_E sc d 59 0 [some (.ref a), some (.long a0), none, none, none] [] g mi mr (tw_K sc (d + 1) 1 8 [x0, x1, x2] [] Q)) := tw_x_cv (as := [.long a0]) (r := []) td_1_5 to_1 tc_0_72 to_59 rfl rfl rfl rfl
theorem td_1_8 : decode (tw_cd 1) 8 = .ok (.ireturn, 1) := by decide +kernel
theorem tz_1_8 : tw_E sc d 1 8 [x0, x1, x2] ([.int v]) g mi mr Q = Q (some (.int v)) g mi mr := tw_x_iret td_1_8 tr_1
end tz_1
-- 2: Tl_cut
section tz_2
variable {sc : Nat × (Nat → Int32)} {d : Nat} {x0 x1 : Option Value} {st : List Value} {g : tw_G} {mi : tw_I} {mr : tw_Q} {Q : Option Value → tw_G → tw_I → tw_Q → Prop} {v w u : Int32} {a b : Nat} {j h : Int64} {s1 s2 s3 s4 : Value}
theorem td_2_0 : decode (tw_cd 2) 0 = .ok (.aload_n 0, 1) := by decide +kernel
theorem tz_2_0 : tw_E sc d 2 0 [some (.ref a), x1] st g mi mr Q = tw_E sc d 2 1 [some (.ref a), x1] (.ref a :: st) g mi mr Q := tw_x_aload_n td_2_0 rfl
theorem td_2_1 : decode (tw_cd 2) 1 = .ok (.getfield 22, 3) := by decide +kernel
theorem tz_2_1 : tw_E sc d 2 1 [x0, x1] (.ref a :: st) g mi mr Q = (tw_kd g a = 0 ∧ tw_E sc d 2 4 [x0, x1] (va_rf (mr a 0) :: st) g mi mr Q) := tw_x_getr td_2_1 to_2 tf_0_22 (trf_0_0)
theorem td_2_4 : decode (tw_cd 2) 4 = .ok (.invokevirtual 76, 3) := by decide +kernel
theorem tz_2_4 : tw_E sc (d + 1) 2 4 [x0, x1] ([.ref a]) g mi mr Q = (tw_kd g a = 3 ∧ tw_E sc d 61 0 [some (.ref a)] [] g mi mr (tw_K sc (d + 1) 2 7 [x0, x1] [] Q)) := tw_x_cv (as := []) (r := []) td_2_4 to_2 tc_0_76 to_61 rfl rfl rfl rfl
theorem td_2_7 : decode (tw_cd 2) 7 = .ok (.istore_n 1, 1) := by decide +kernel
theorem tz_2_7 : tw_E sc d 2 7 [x0, x1] (.int v :: st) g mi mr Q = tw_E sc d 2 8 [x0, some (.int v)] st g mi mr Q := tw_x_istore_n td_2_7 tp_2 rfl
theorem td_2_8 : decode (tw_cd 2) 8 = .ok (.aload_n 0, 1) := by decide +kernel
theorem tz_2_8 : tw_E sc d 2 8 [some (.ref a), x1] st g mi mr Q = tw_E sc d 2 9 [some (.ref a), x1] (.ref a :: st) g mi mr Q := tw_x_aload_n td_2_8 rfl
theorem td_2_9 : decode (tw_cd 2) 9 = .ok (.getfield 22, 3) := by decide +kernel
theorem tz_2_9 : tw_E sc d 2 9 [x0, x1] (.ref a :: st) g mi mr Q = (tw_kd g a = 0 ∧ tw_E sc d 2 12 [x0, x1] (va_rf (mr a 0) :: st) g mi mr Q) := tw_x_getr td_2_9 to_2 tf_0_22 (trf_0_0)
theorem td_2_12 : decode (tw_cd 2) 12 = .ok (.invokevirtual 80, 3) := by decide +kernel
theorem tz_2_12 : tw_E sc (d + 1) 2 12 [x0, x1] ([.ref a]) g mi mr Q = (tw_kd g a = 3 ∧ tw_E sc d 60 0 [some (.ref a)] [] g mi mr (tw_K sc (d + 1) 2 15 [x0, x1] [] Q)) := tw_x_cv (as := []) (r := []) td_2_12 to_2 tc_0_80 to_60 rfl rfl rfl rfl
theorem td_2_15 : decode (tw_cd 2) 15 = .ok (.iload_n 1, 1) := by decide +kernel
theorem tz_2_15 : tw_E sc d 2 15 [x0, some (.int v)] st g mi mr Q = tw_E sc d 2 16 [x0, some (.int v)] (.int v :: st) g mi mr Q := tw_x_iload_n td_2_15 rfl
theorem td_2_16 : decode (tw_cd 2) 16 = .ok (.ireturn, 1) := by decide +kernel
theorem tz_2_16 : tw_E sc d 2 16 [x0, x1] ([.int v]) g mi mr Q = Q (some (.int v)) g mi mr := tw_x_iret td_2_16 tr_2
end tz_2
-- 3: Tl_read
section tz_3
variable {sc : Nat × (Nat → Int32)} {d : Nat} {x0 x1 : Option Value} {st : List Value} {g : tw_G} {mi : tw_I} {mr : tw_Q} {Q : Option Value → tw_G → tw_I → tw_Q → Prop} {v w u : Int32} {a b : Nat} {j h : Int64} {s1 s2 s3 s4 : Value}
theorem td_3_0 : decode (tw_cd 3) 0 = .ok (.aload_n 0, 1) := by decide +kernel
theorem tz_3_0 : tw_E sc d 3 0 [some (.ref a), x1] st g mi mr Q = tw_E sc d 3 1 [some (.ref a), x1] (.ref a :: st) g mi mr Q := tw_x_aload_n td_3_0 rfl
theorem td_3_1 : decode (tw_cd 3) 1 = .ok (.getfield 31, 3) := by decide +kernel
theorem tz_3_1 : tw_E sc d 3 1 [x0, x1] (.ref a :: st) g mi mr Q = (tw_kd g a = 0 ∧ tw_E sc d 3 4 [x0, x1] (va_rf (mr a 1) :: st) g mi mr Q) := tw_x_getr td_3_1 to_3 tf_0_31 (trf_0_1)
theorem td_3_4 : decode (tw_cd 3) 4 = .ok (.aload_n 0, 1) := by decide +kernel
theorem tz_3_4 : tw_E sc d 3 4 [some (.ref a), x1] st g mi mr Q = tw_E sc d 3 5 [some (.ref a), x1] (.ref a :: st) g mi mr Q := tw_x_aload_n td_3_4 rfl
theorem td_3_5 : decode (tw_cd 3) 5 = .ok (.getfield 16, 3) := by decide +kernel
theorem tz_3_5 : tw_E sc d 3 5 [x0, x1] (.ref a :: st) g mi mr Q = (tw_kd g a = 0 ∧ tw_E sc d 3 8 [x0, x1] (va_rf (mr a 8) :: st) g mi mr Q) := tw_x_getr td_3_5 to_3 tf_0_16 (trf_0_8)
theorem td_3_8 : decode (tw_cd 3) 8 = .ok (.invokevirtual 83, 3) := by decide +kernel
theorem tz_3_8 {a0 : Nat} : tw_E sc (d + 1) 3 8 [x0, x1] ([.ref a0, .ref a]) g mi mr Q = (tw_kd g a = 4 ∧ tw_E sc d 67 0 [some (.ref a), some (.ref a0), none] [] g mi mr (tw_K sc (d + 1) 3 11 [x0, x1] [] Q)) := tw_x_cv (as := [.ref a0]) (r := []) td_3_8 to_3 tc_0_83 to_67 rfl rfl rfl rfl
theorem td_3_11 : decode (tw_cd 3) 11 = .ok (.ifCond .ne 14, 3) := by decide +kernel
theorem tz_3_11 : tw_E sc d 3 11 [x0, x1] (.int v :: st) g mi mr Q = if ¬ v = 0 then tw_E sc d 3 25 [x0, x1] st g mi mr Q else tw_E sc d 3 14 [x0, x1] st g mi mr Q := tw_x_if_ne td_3_11 (by decide)
theorem td_3_14 : decode (tw_cd 3) 14 = .ok (.bipush (-100), 2) := by decide +kernel
theorem tz_3_14 : tw_E sc d 3 14 [x0, x1] st g mi mr Q = tw_E sc d 3 16 [x0, x1] (.int (-100) :: st) g mi mr Q := tw_x_bipush td_3_14 (by decide)
theorem td_3_16 : decode (tw_cd 3) 16 = .ok (.aload_n 0, 1) := by decide +kernel
theorem tz_3_16 : tw_E sc d 3 16 [some (.ref a), x1] st g mi mr Q = tw_E sc d 3 17 [some (.ref a), x1] (.ref a :: st) g mi mr Q := tw_x_aload_n td_3_16 rfl
theorem td_3_17 : decode (tw_cd 3) 17 = .ok (.getfield 31, 3) := by decide +kernel
theorem tz_3_17 : tw_E sc d 3 17 [x0, x1] (.ref a :: st) g mi mr Q = (tw_kd g a = 0 ∧ tw_E sc d 3 20 [x0, x1] (va_rf (mr a 1) :: st) g mi mr Q) := tw_x_getr td_3_17 to_3 tf_0_31 (trf_0_1)
theorem td_3_20 : decode (tw_cd 3) 20 = .ok (.invokevirtual 87, 3) := by decide +kernel
theorem tz_3_20 : tw_E sc (d + 1) 3 20 [x0, x1] ([.ref a, s1]) g mi mr Q = (tw_kd g a = 4 ∧ tw_E sc d 69 0 [some (.ref a)] [] g mi mr (tw_K sc (d + 1) 3 23 [x0, x1] [s1] Q)) := tw_x_cv (as := []) (r := [s1]) td_3_20 to_3 tc_0_87 to_69 rfl rfl rfl rfl
theorem td_3_23 : decode (tw_cd 3) 23 = .ok (.isub, 1) := by decide +kernel
theorem tz_3_23 : tw_E sc d 3 23 [x0, x1] (.int w :: .int v :: st) g mi mr Q = tw_E sc d 3 24 [x0, x1] (.int (v - w) :: st) g mi mr Q := tw_x_isub td_3_23
theorem td_3_24 : decode (tw_cd 3) 24 = .ok (.ireturn, 1) := by decide +kernel
theorem tz_3_24 : tw_E sc d 3 24 [x0, x1] ([.int v]) g mi mr Q = Q (some (.int v)) g mi mr := tw_x_iret td_3_24 tr_3
theorem td_3_25 : decode (tw_cd 3) 25 = .ok (.aload_n 0, 1) := by decide +kernel
theorem tz_3_25 : tw_E sc d 3 25 [some (.ref a), x1] st g mi mr Q = tw_E sc d 3 26 [some (.ref a), x1] (.ref a :: st) g mi mr Q := tw_x_aload_n td_3_25 rfl
theorem td_3_26 : decode (tw_cd 3) 26 = .ok (.getfield 12, 3) := by decide +kernel
theorem tz_3_26 : tw_E sc d 3 26 [x0, x1] (.ref a :: st) g mi mr Q = (tw_kd g a = 0 ∧ tw_E sc d 3 29 [x0, x1] (va_rf (mr a 7) :: st) g mi mr Q) := tw_x_getr td_3_26 to_3 tf_0_12 (trf_0_7)
theorem td_3_29 : decode (tw_cd 3) 29 = .ok (.astore_n 1, 1) := by decide +kernel
theorem tz_3_29 : tw_E sc d 3 29 [x0, x1] (.ref a :: st) g mi mr Q = tw_E sc d 3 30 [x0, some (.ref a)] st g mi mr Q := tw_x_astore_n td_3_29 tp_3 rfl
theorem tz_3_29n : tw_E sc d 3 29 [x0, x1] (.null :: st) g mi mr Q = tw_E sc d 3 30 [x0, some .null] st g mi mr Q := tw_x_astore_nN td_3_29 tp_3 rfl
theorem td_3_30 : decode (tw_cd 3) 30 = .ok (.aload_n 0, 1) := by decide +kernel
theorem tz_3_30 : tw_E sc d 3 30 [some (.ref a), x1] st g mi mr Q = tw_E sc d 3 31 [some (.ref a), x1] (.ref a :: st) g mi mr Q := tw_x_aload_n td_3_30 rfl
theorem td_3_31 : decode (tw_cd 3) 31 = .ok (.aload_n 0, 1) := by decide +kernel
theorem tz_3_31 : tw_E sc d 3 31 [some (.ref a), x1] st g mi mr Q = tw_E sc d 3 32 [some (.ref a), x1] (.ref a :: st) g mi mr Q := tw_x_aload_n td_3_31 rfl
theorem td_3_32 : decode (tw_cd 3) 32 = .ok (.getfield 16, 3) := by decide +kernel
theorem tz_3_32 : tw_E sc d 3 32 [x0, x1] (.ref a :: st) g mi mr Q = (tw_kd g a = 0 ∧ tw_E sc d 3 35 [x0, x1] (va_rf (mr a 8) :: st) g mi mr Q) := tw_x_getr td_3_32 to_3 tf_0_16 (trf_0_8)
theorem td_3_35 : decode (tw_cd 3) 35 = .ok (.putfield 12, 3) := by decide +kernel
theorem tz_3_35 : tw_E sc d 3 35 [x0, x1] (.ref b :: .ref a :: st) g mi mr Q = (tw_kd g a = 0 ∧ tw_E sc d 3 38 [x0, x1] st g mi (tw_st mr a (tw_st (mr a) 7 (some b))) Q) := tw_x_putr td_3_35 to_3 tf_0_12 (Or.inl rfl) (trf_0_7)
theorem td_3_38 : decode (tw_cd 3) 38 = .ok (.aload_n 0, 1) := by decide +kernel
theorem tz_3_38 : tw_E sc d 3 38 [some (.ref a), x1] st g mi mr Q = tw_E sc d 3 39 [some (.ref a), x1] (.ref a :: st) g mi mr Q := tw_x_aload_n td_3_38 rfl
theorem td_3_39 : decode (tw_cd 3) 39 = .ok (.aload_n 1, 1) := by decide +kernel
theorem tz_3_39 : tw_E sc d 3 39 [x0, some (.ref a)] st g mi mr Q = tw_E sc d 3 40 [x0, some (.ref a)] (.ref a :: st) g mi mr Q := tw_x_aload_n td_3_39 rfl
theorem tz_3_39n : tw_E sc d 3 39 [x0, some .null] st g mi mr Q = tw_E sc d 3 40 [x0, some .null] (.null :: st) g mi mr Q := tw_x_aload_nN td_3_39 rfl
theorem td_3_40 : decode (tw_cd 3) 40 = .ok (.putfield 16, 3) := by decide +kernel
theorem tz_3_40 : tw_E sc d 3 40 [x0, x1] (.ref b :: .ref a :: st) g mi mr Q = (tw_kd g a = 0 ∧ tw_E sc d 3 43 [x0, x1] st g mi (tw_st mr a (tw_st (mr a) 8 (some b))) Q) := tw_x_putr td_3_40 to_3 tf_0_16 (Or.inl rfl) (trf_0_8)
theorem td_3_43 : decode (tw_cd 3) 43 = .ok (.aload_n 0, 1) := by decide +kernel
theorem tz_3_43 : tw_E sc d 3 43 [some (.ref a), x1] st g mi mr Q = tw_E sc d 3 44 [some (.ref a), x1] (.ref a :: st) g mi mr Q := tw_x_aload_n td_3_43 rfl
theorem td_3_44 : decode (tw_cd 3) 44 = .ok (.invokevirtual 90, 3) := by decide +kernel
theorem tz_3_44 : tw_E sc (d + 1) 3 44 [x0, x1] ([.ref a]) g mi mr Q = (tw_kd g a = 0 ∧ tw_E sc d 25 0 [some (.ref a)] [] g mi mr (tw_K sc (d + 1) 3 47 [x0, x1] [] Q)) := tw_x_cv (as := []) (r := []) td_3_44 to_3 tc_0_90 to_25 rfl rfl rfl rfl
theorem td_3_47 : decode (tw_cd 3) 47 = .ok (.aload_n 0, 1) := by decide +kernel
theorem tz_3_47 : tw_E sc d 3 47 [some (.ref a), x1] st g mi mr Q = tw_E sc d 3 48 [some (.ref a), x1] (.ref a :: st) g mi mr Q := tw_x_aload_n td_3_47 rfl
theorem td_3_48 : decode (tw_cd 3) 48 = .ok (.getfield 22, 3) := by decide +kernel
theorem tz_3_48 : tw_E sc d 3 48 [x0, x1] (.ref a :: st) g mi mr Q = (tw_kd g a = 0 ∧ tw_E sc d 3 51 [x0, x1] (va_rf (mr a 0) :: st) g mi mr Q) := tw_x_getr td_3_48 to_3 tf_0_22 (trf_0_0)
theorem td_3_51 : decode (tw_cd 3) 51 = .ok (.invokevirtual 80, 3) := by decide +kernel
theorem tz_3_51 : tw_E sc (d + 1) 3 51 [x0, x1] ([.ref a]) g mi mr Q = (tw_kd g a = 3 ∧ tw_E sc d 60 0 [some (.ref a)] [] g mi mr (tw_K sc (d + 1) 3 54 [x0, x1] [] Q)) := tw_x_cv (as := []) (r := []) td_3_51 to_3 tc_0_80 to_60 rfl rfl rfl rfl
theorem td_3_54 : decode (tw_cd 3) 54 = .ok (.aload_n 0, 1) := by decide +kernel
theorem tz_3_54 : tw_E sc d 3 54 [some (.ref a), x1] st g mi mr Q = tw_E sc d 3 55 [some (.ref a), x1] (.ref a :: st) g mi mr Q := tw_x_aload_n td_3_54 rfl
theorem td_3_55 : decode (tw_cd 3) 55 = .ok (.getfield 12, 3) := by decide +kernel
theorem tz_3_55 : tw_E sc d 3 55 [x0, x1] (.ref a :: st) g mi mr Q = (tw_kd g a = 0 ∧ tw_E sc d 3 58 [x0, x1] (va_rf (mr a 7) :: st) g mi mr Q) := tw_x_getr td_3_55 to_3 tf_0_12 (trf_0_7)
theorem td_3_58 : decode (tw_cd 3) 58 = .ok (.invokevirtual 93, 3) := by decide +kernel
theorem tz_3_58 : tw_E sc (d + 1) 3 58 [x0, x1] ([.ref a]) g mi mr Q = (tw_kd g a = 1 ∧ tw_E sc d 37 0 [some (.ref a)] [] g mi mr (tw_K sc (d + 1) 3 61 [x0, x1] [] Q)) := tw_x_cv (as := []) (r := []) td_3_58 to_3 tc_0_93 to_37 rfl rfl rfl rfl
theorem td_3_61 : decode (tw_cd 3) 61 = .ok (.ireturn, 1) := by decide +kernel
theorem tz_3_61 : tw_E sc d 3 61 [x0, x1] ([.int v]) g mi mr Q = Q (some (.int v)) g mi mr := tw_x_iret td_3_61 tr_3
end tz_3
-- 4: Tl_fault
section tz_4
variable {sc : Nat × (Nat → Int32)} {d : Nat} {x0 : Option Value} {st : List Value} {g : tw_G} {mi : tw_I} {mr : tw_Q} {Q : Option Value → tw_G → tw_I → tw_Q → Prop} {v w u : Int32} {a b : Nat} {j h : Int64} {s1 s2 s3 s4 : Value}
theorem td_4_0 : decode (tw_cd 4) 0 = .ok (.aload_n 0, 1) := by decide +kernel
theorem tz_4_0 : tw_E sc d 4 0 [some (.ref a)] st g mi mr Q = tw_E sc d 4 1 [some (.ref a)] (.ref a :: st) g mi mr Q := tw_x_aload_n td_4_0 rfl
theorem td_4_1 : decode (tw_cd 4) 1 = .ok (.getfield 31, 3) := by decide +kernel
theorem tz_4_1 : tw_E sc d 4 1 [x0] (.ref a :: st) g mi mr Q = (tw_kd g a = 0 ∧ tw_E sc d 4 4 [x0] (va_rf (mr a 1) :: st) g mi mr Q) := tw_x_getr td_4_1 to_4 tf_0_31 (trf_0_1)
theorem td_4_4 : decode (tw_cd 4) 4 = .ok (.invokevirtual 94, 3) := by decide +kernel
theorem tz_4_4 : tw_E sc (d + 1) 4 4 [x0] ([.ref a]) g mi mr Q = (tw_kd g a = 4 ∧ tw_E sc d 68 0 [some (.ref a)] [] g mi mr (tw_K sc (d + 1) 4 7 [x0] [] Q)) := tw_x_cv (as := []) (r := []) td_4_4 to_4 tc_0_94 to_68 rfl rfl rfl rfl
theorem td_4_7 : decode (tw_cd 4) 7 = .ok (.ireturn, 1) := by decide +kernel
theorem tz_4_7 : tw_E sc d 4 7 [x0] ([.int v]) g mi mr Q = Q (some (.int v)) g mi mr := tw_x_iret td_4_7 tr_4
end tz_4
-- 5: Tl_node
section tz_5
variable {sc : Nat × (Nat → Int32)} {d : Nat} {x0 x1 x2 x3 x4 : Option Value} {st : List Value} {g : tw_G} {mi : tw_I} {mr : tw_Q} {Q : Option Value → tw_G → tw_I → tw_Q → Prop} {v w u : Int32} {a b : Nat} {j h : Int64} {s1 s2 s3 s4 : Value}
theorem td_5_0 : decode (tw_cd 5) 0 = .ok (.aload_n 0, 1) := by decide +kernel
theorem tz_5_0 : tw_E sc d 5 0 [some (.ref a), x1, x2, x3, x4] st g mi mr Q = tw_E sc d 5 1 [some (.ref a), x1, x2, x3, x4] (.ref a :: st) g mi mr Q := tw_x_aload_n td_5_0 rfl
theorem td_5_1 : decode (tw_cd 5) 1 = .ok (.getfield 12, 3) := by decide +kernel
theorem tz_5_1 : tw_E sc d 5 1 [x0, x1, x2, x3, x4] (.ref a :: st) g mi mr Q = (tw_kd g a = 0 ∧ tw_E sc d 5 4 [x0, x1, x2, x3, x4] (va_rf (mr a 7) :: st) g mi mr Q) := tw_x_getr td_5_1 to_5 tf_0_12 (trf_0_7)
theorem td_5_4 : decode (tw_cd 5) 4 = .ok (.iload_n 1, 1) := by decide +kernel
theorem tz_5_4 : tw_E sc d 5 4 [x0, some (.int v), x2, x3, x4] st g mi mr Q = tw_E sc d 5 5 [x0, some (.int v), x2, x3, x4] (.int v :: st) g mi mr Q := tw_x_iload_n td_5_4 rfl
theorem td_5_5 : decode (tw_cd 5) 5 = .ok (.invokevirtual 97, 3) := by decide +kernel
theorem tz_5_5 {a0 : Int32} : tw_E sc (d + 1) 5 5 [x0, x1, x2, x3, x4] ([.int a0, .ref a]) g mi mr Q = (tw_kd g a = 1 ∧ tw_E sc d 39 0 [some (.ref a), some (.int a0)] [] g mi mr (tw_K sc (d + 1) 5 8 [x0, x1, x2, x3, x4] [] Q)) := tw_x_cv (as := [.int a0]) (r := []) td_5_5 to_5 tc_0_97 to_39 rfl rfl rfl rfl
theorem td_5_8 : decode (tw_cd 5) 8 = .ok (.astore 4, 2) := by decide +kernel
theorem tz_5_8 : tw_E sc d 5 8 [x0, x1, x2, x3, x4] (.ref a :: st) g mi mr Q = tw_E sc d 5 10 [x0, x1, x2, x3, some (.ref a)] st g mi mr Q := tw_x_astore td_5_8 tp_5 rfl
theorem tz_5_8n : tw_E sc d 5 8 [x0, x1, x2, x3, x4] (.null :: st) g mi mr Q = tw_E sc d 5 10 [x0, x1, x2, x3, some .null] st g mi mr Q := tw_x_astoreN td_5_8 tp_5 rfl
theorem td_5_10 : decode (tw_cd 5) 10 = .ok (.aload 4, 2) := by decide +kernel
theorem tz_5_10 : tw_E sc d 5 10 [x0, x1, x2, x3, some (.ref a)] st g mi mr Q = tw_E sc d 5 12 [x0, x1, x2, x3, some (.ref a)] (.ref a :: st) g mi mr Q := tw_x_aload td_5_10 rfl
theorem tz_5_10n : tw_E sc d 5 10 [x0, x1, x2, x3, some .null] st g mi mr Q = tw_E sc d 5 12 [x0, x1, x2, x3, some .null] (.null :: st) g mi mr Q := tw_x_aloadN td_5_10 rfl
theorem td_5_12 : decode (tw_cd 5) 12 = .ok (.ifnonnull 5, 3) := by decide +kernel
theorem tz_5_12 : tw_E sc d 5 12 [x0, x1, x2, x3, x4] (.ref a :: st) g mi mr Q = tw_E sc d 5 17 [x0, x1, x2, x3, x4] st g mi mr Q := tw_x_ifnonnull td_5_12 (by decide)
theorem tz_5_12n : tw_E sc d 5 12 [x0, x1, x2, x3, x4] (.null :: st) g mi mr Q = tw_E sc d 5 15 [x0, x1, x2, x3, x4] st g mi mr Q := tw_x_ifnonnullN td_5_12
theorem td_5_15 : decode (tw_cd 5) 15 = .ok (.iconst (-1), 1) := by decide +kernel
theorem tz_5_15 : tw_E sc d 5 15 [x0, x1, x2, x3, x4] st g mi mr Q = tw_E sc d 5 16 [x0, x1, x2, x3, x4] (.int (-1) :: st) g mi mr Q := tw_x_iconst td_5_15 (by decide)
theorem td_5_16 : decode (tw_cd 5) 16 = .ok (.ireturn, 1) := by decide +kernel
theorem tz_5_16 : tw_E sc d 5 16 [x0, x1, x2, x3, x4] ([.int v]) g mi mr Q = Q (some (.int v)) g mi mr := tw_x_iret td_5_16 tr_5
theorem td_5_17 : decode (tw_cd 5) 17 = .ok (.iload_n 2, 1) := by decide +kernel
theorem tz_5_17 : tw_E sc d 5 17 [x0, x1, some (.int v), x3, x4] st g mi mr Q = tw_E sc d 5 18 [x0, x1, some (.int v), x3, x4] (.int v :: st) g mi mr Q := tw_x_iload_n td_5_17 rfl
theorem td_5_18 : decode (tw_cd 5) 18 = .ok (.ifCond .lt 18, 3) := by decide +kernel
theorem tz_5_18 : tw_E sc d 5 18 [x0, x1, x2, x3, x4] (.int v :: st) g mi mr Q = if v < 0 then tw_E sc d 5 36 [x0, x1, x2, x3, x4] st g mi mr Q else tw_E sc d 5 21 [x0, x1, x2, x3, x4] st g mi mr Q := tw_x_if_lt td_5_18 (by decide)
theorem td_5_21 : decode (tw_cd 5) 21 = .ok (.iload_n 2, 1) := by decide +kernel
theorem tz_5_21 : tw_E sc d 5 21 [x0, x1, some (.int v), x3, x4] st g mi mr Q = tw_E sc d 5 22 [x0, x1, some (.int v), x3, x4] (.int v :: st) g mi mr Q := tw_x_iload_n td_5_21 rfl
theorem td_5_22 : decode (tw_cd 5) 22 = .ok (.bipush 8, 2) := by decide +kernel
theorem tz_5_22 : tw_E sc d 5 22 [x0, x1, x2, x3, x4] st g mi mr Q = tw_E sc d 5 24 [x0, x1, x2, x3, x4] (.int 8 :: st) g mi mr Q := tw_x_bipush td_5_22 (by decide)
theorem td_5_24 : decode (tw_cd 5) 24 = .ok (.if_icmp .gt 12, 3) := by decide +kernel
theorem tz_5_24 : tw_E sc d 5 24 [x0, x1, x2, x3, x4] (.int w :: .int v :: st) g mi mr Q = if w < v then tw_E sc d 5 36 [x0, x1, x2, x3, x4] st g mi mr Q else tw_E sc d 5 27 [x0, x1, x2, x3, x4] st g mi mr Q := tw_x_ic_gt td_5_24 (by decide)
theorem td_5_27 : decode (tw_cd 5) 27 = .ok (.iload_n 3, 1) := by decide +kernel
theorem tz_5_27 : tw_E sc d 5 27 [x0, x1, x2, some (.int v), x4] st g mi mr Q = tw_E sc d 5 28 [x0, x1, x2, some (.int v), x4] (.int v :: st) g mi mr Q := tw_x_iload_n td_5_27 rfl
theorem td_5_28 : decode (tw_cd 5) 28 = .ok (.ifCond .lt 8, 3) := by decide +kernel
theorem tz_5_28 : tw_E sc d 5 28 [x0, x1, x2, x3, x4] (.int v :: st) g mi mr Q = if v < 0 then tw_E sc d 5 36 [x0, x1, x2, x3, x4] st g mi mr Q else tw_E sc d 5 31 [x0, x1, x2, x3, x4] st g mi mr Q := tw_x_if_lt td_5_28 (by decide)
theorem td_5_31 : decode (tw_cd 5) 31 = .ok (.iload_n 3, 1) := by decide +kernel
theorem tz_5_31 : tw_E sc d 5 31 [x0, x1, x2, some (.int v), x4] st g mi mr Q = tw_E sc d 5 32 [x0, x1, x2, some (.int v), x4] (.int v :: st) g mi mr Q := tw_x_iload_n td_5_31 rfl
theorem td_5_32 : decode (tw_cd 5) 32 = .ok (.iconst 4, 1) := by decide +kernel
theorem tz_5_32 : tw_E sc d 5 32 [x0, x1, x2, x3, x4] st g mi mr Q = tw_E sc d 5 33 [x0, x1, x2, x3, x4] (.int 4 :: st) g mi mr Q := tw_x_iconst td_5_32 (by decide)
theorem td_5_33 : decode (tw_cd 5) 33 = .ok (.if_icmp .le 6, 3) := by decide +kernel
theorem tz_5_33 : tw_E sc d 5 33 [x0, x1, x2, x3, x4] (.int w :: .int v :: st) g mi mr Q = if v ≤ w then tw_E sc d 5 39 [x0, x1, x2, x3, x4] st g mi mr Q else tw_E sc d 5 36 [x0, x1, x2, x3, x4] st g mi mr Q := tw_x_ic_le td_5_33 (by decide)
theorem td_5_36 : decode (tw_cd 5) 36 = .ok (.bipush (-2), 2) := by decide +kernel
theorem tz_5_36 : tw_E sc d 5 36 [x0, x1, x2, x3, x4] st g mi mr Q = tw_E sc d 5 38 [x0, x1, x2, x3, x4] (.int (-2) :: st) g mi mr Q := tw_x_bipush td_5_36 (by decide)
theorem td_5_38 : decode (tw_cd 5) 38 = .ok (.ireturn, 1) := by decide +kernel
theorem tz_5_38 : tw_E sc d 5 38 [x0, x1, x2, x3, x4] ([.int v]) g mi mr Q = Q (some (.int v)) g mi mr := tw_x_iret td_5_38 tr_5
theorem td_5_39 : decode (tw_cd 5) 39 = .ok (.aload 4, 2) := by decide +kernel
theorem tz_5_39 : tw_E sc d 5 39 [x0, x1, x2, x3, some (.ref a)] st g mi mr Q = tw_E sc d 5 41 [x0, x1, x2, x3, some (.ref a)] (.ref a :: st) g mi mr Q := tw_x_aload td_5_39 rfl
theorem tz_5_39n : tw_E sc d 5 39 [x0, x1, x2, x3, some .null] st g mi mr Q = tw_E sc d 5 41 [x0, x1, x2, x3, some .null] (.null :: st) g mi mr Q := tw_x_aloadN td_5_39 rfl
theorem td_5_41 : decode (tw_cd 5) 41 = .ok (.iload_n 2, 1) := by decide +kernel
theorem tz_5_41 : tw_E sc d 5 41 [x0, x1, some (.int v), x3, x4] st g mi mr Q = tw_E sc d 5 42 [x0, x1, some (.int v), x3, x4] (.int v :: st) g mi mr Q := tw_x_iload_n td_5_41 rfl
theorem td_5_42 : decode (tw_cd 5) 42 = .ok (.invokevirtual 101, 3) := by decide +kernel
theorem tz_5_42 {a0 : Int32} : tw_E sc (d + 1) 5 42 [x0, x1, x2, x3, x4] ([.int a0, .ref a]) g mi mr Q = (tw_kd g a = 2 ∧ tw_E sc d 48 0 [some (.ref a), some (.int a0)] [] g mi mr (tw_K sc (d + 1) 5 45 [x0, x1, x2, x3, x4] [] Q)) := tw_x_cv (as := [.int a0]) (r := []) td_5_42 to_5 tc_0_101 to_48 rfl rfl rfl rfl
theorem td_5_45 : decode (tw_cd 5) 45 = .ok (.ifCond .eq 12, 3) := by decide +kernel
theorem tz_5_45 : tw_E sc d 5 45 [x0, x1, x2, x3, x4] (.int v :: st) g mi mr Q = if v = 0 then tw_E sc d 5 57 [x0, x1, x2, x3, x4] st g mi mr Q else tw_E sc d 5 48 [x0, x1, x2, x3, x4] st g mi mr Q := tw_x_if_eq td_5_45 (by decide)
theorem td_5_48 : decode (tw_cd 5) 48 = .ok (.aload 4, 2) := by decide +kernel
theorem tz_5_48 : tw_E sc d 5 48 [x0, x1, x2, x3, some (.ref a)] st g mi mr Q = tw_E sc d 5 50 [x0, x1, x2, x3, some (.ref a)] (.ref a :: st) g mi mr Q := tw_x_aload td_5_48 rfl
theorem tz_5_48n : tw_E sc d 5 48 [x0, x1, x2, x3, some .null] st g mi mr Q = tw_E sc d 5 50 [x0, x1, x2, x3, some .null] (.null :: st) g mi mr Q := tw_x_aloadN td_5_48 rfl
theorem td_5_50 : decode (tw_cd 5) 50 = .ok (.iload_n 3, 1) := by decide +kernel
theorem tz_5_50 : tw_E sc d 5 50 [x0, x1, x2, some (.int v), x4] st g mi mr Q = tw_E sc d 5 51 [x0, x1, x2, some (.int v), x4] (.int v :: st) g mi mr Q := tw_x_iload_n td_5_50 rfl
theorem td_5_51 : decode (tw_cd 5) 51 = .ok (.invokevirtual 107, 3) := by decide +kernel
theorem tz_5_51 {a0 : Int32} : tw_E sc (d + 1) 5 51 [x0, x1, x2, x3, x4] ([.int a0, .ref a]) g mi mr Q = (tw_kd g a = 2 ∧ tw_E sc d 49 0 [some (.ref a), some (.int a0)] [] g mi mr (tw_K sc (d + 1) 5 54 [x0, x1, x2, x3, x4] [] Q)) := tw_x_cv (as := [.int a0]) (r := []) td_5_51 to_5 tc_0_107 to_49 rfl rfl rfl rfl
theorem td_5_54 : decode (tw_cd 5) 54 = .ok (.goto 5, 3) := by decide +kernel
theorem tz_5_54 : tw_E sc d 5 54 [x0, x1, x2, x3, x4] st g mi mr Q = tw_E sc d 5 59 [x0, x1, x2, x3, x4] st g mi mr Q := tw_x_goto td_5_54 (by decide)
theorem td_5_57 : decode (tw_cd 5) 57 = .ok (.bipush (-13), 2) := by decide +kernel
theorem tz_5_57 : tw_E sc d 5 57 [x0, x1, x2, x3, x4] st g mi mr Q = tw_E sc d 5 59 [x0, x1, x2, x3, x4] (.int (-13) :: st) g mi mr Q := tw_x_bipush td_5_57 (by decide)
theorem td_5_59 : decode (tw_cd 5) 59 = .ok (.ireturn, 1) := by decide +kernel
theorem tz_5_59 : tw_E sc d 5 59 [x0, x1, x2, x3, x4] ([.int v]) g mi mr Q = Q (some (.int v)) g mi mr := tw_x_iret td_5_59 tr_5
end tz_5
-- 6: Tl_arm
section tz_6
variable {sc : Nat × (Nat → Int32)} {d : Nat} {x0 x1 : Option Value} {st : List Value} {g : tw_G} {mi : tw_I} {mr : tw_Q} {Q : Option Value → tw_G → tw_I → tw_Q → Prop} {v w u : Int32} {a b : Nat} {j h : Int64} {s1 s2 s3 s4 : Value}
theorem td_6_0 : decode (tw_cd 6) 0 = .ok (.aload_n 0, 1) := by decide +kernel
theorem tz_6_0 : tw_E sc d 6 0 [some (.ref a), x1] st g mi mr Q = tw_E sc d 6 1 [some (.ref a), x1] (.ref a :: st) g mi mr Q := tw_x_aload_n td_6_0 rfl
theorem td_6_1 : decode (tw_cd 6) 1 = .ok (.invokevirtual 111, 3) := by decide +kernel
theorem tz_6_1 : tw_E sc (d + 1) 6 1 [x0, x1] ([.ref a]) g mi mr Q = (tw_kd g a = 0 ∧ tw_E sc d 24 0 [some (.ref a)] [] g mi mr (tw_K sc (d + 1) 6 4 [x0, x1] [] Q)) := tw_x_cv (as := []) (r := []) td_6_1 to_6 tc_0_111 to_24 rfl rfl rfl rfl
theorem td_6_4 : decode (tw_cd 6) 4 = .ok (.ifCond .ne 6, 3) := by decide +kernel
theorem tz_6_4 : tw_E sc d 6 4 [x0, x1] (.int v :: st) g mi mr Q = if ¬ v = 0 then tw_E sc d 6 10 [x0, x1] st g mi mr Q else tw_E sc d 6 7 [x0, x1] st g mi mr Q := tw_x_if_ne td_6_4 (by decide)
theorem td_6_7 : decode (tw_cd 6) 7 = .ok (.bipush (-3), 2) := by decide +kernel
theorem tz_6_7 : tw_E sc d 6 7 [x0, x1] st g mi mr Q = tw_E sc d 6 9 [x0, x1] (.int (-3) :: st) g mi mr Q := tw_x_bipush td_6_7 (by decide)
theorem td_6_9 : decode (tw_cd 6) 9 = .ok (.ireturn, 1) := by decide +kernel
theorem tz_6_9 : tw_E sc d 6 9 [x0, x1] ([.int v]) g mi mr Q = Q (some (.int v)) g mi mr := tw_x_iret td_6_9 tr_6
theorem td_6_10 : decode (tw_cd 6) 10 = .ok (.aload_n 0, 1) := by decide +kernel
theorem tz_6_10 : tw_E sc d 6 10 [some (.ref a), x1] st g mi mr Q = tw_E sc d 6 11 [some (.ref a), x1] (.ref a :: st) g mi mr Q := tw_x_aload_n td_6_10 rfl
theorem td_6_11 : decode (tw_cd 6) 11 = .ok (.getfield 38, 3) := by decide +kernel
theorem tz_6_11 : tw_E sc d 6 11 [x0, x1] (.ref a :: st) g mi mr Q = (tw_kd g a = 0 ∧ tw_E sc d 6 14 [x0, x1] (va_rf (mr a 2) :: st) g mi mr Q) := tw_x_getr td_6_11 to_6 tf_0_38 (trf_0_2)
theorem td_6_14 : decode (tw_cd 6) 14 = .ok (.invokevirtual 115, 3) := by decide +kernel
theorem tz_6_14 : tw_E sc (d + 1) 6 14 [x0, x1] ([.ref a]) g mi mr Q = (tw_kd g a = 5 ∧ tw_E sc d 90 0 [some (.ref a)] [] g mi mr (tw_K sc (d + 1) 6 17 [x0, x1] [] Q)) := tw_x_cv (as := []) (r := []) td_6_14 to_6 tc_0_115 to_90 rfl rfl rfl rfl
theorem td_6_17 : decode (tw_cd 6) 17 = .ok (.istore_n 1, 1) := by decide +kernel
theorem tz_6_17 : tw_E sc d 6 17 [x0, x1] (.int v :: st) g mi mr Q = tw_E sc d 6 18 [x0, some (.int v)] st g mi mr Q := tw_x_istore_n td_6_17 tp_6 rfl
theorem td_6_18 : decode (tw_cd 6) 18 = .ok (.aload_n 0, 1) := by decide +kernel
theorem tz_6_18 : tw_E sc d 6 18 [some (.ref a), x1] st g mi mr Q = tw_E sc d 6 19 [some (.ref a), x1] (.ref a :: st) g mi mr Q := tw_x_aload_n td_6_18 rfl
theorem td_6_19 : decode (tw_cd 6) 19 = .ok (.invokevirtual 90, 3) := by decide +kernel
theorem tz_6_19 : tw_E sc (d + 1) 6 19 [x0, x1] ([.ref a]) g mi mr Q = (tw_kd g a = 0 ∧ tw_E sc d 25 0 [some (.ref a)] [] g mi mr (tw_K sc (d + 1) 6 22 [x0, x1] [] Q)) := tw_x_cv (as := []) (r := []) td_6_19 to_6 tc_0_90 to_25 rfl rfl rfl rfl
theorem td_6_22 : decode (tw_cd 6) 22 = .ok (.iload_n 1, 1) := by decide +kernel
theorem tz_6_22 : tw_E sc d 6 22 [x0, some (.int v)] st g mi mr Q = tw_E sc d 6 23 [x0, some (.int v)] (.int v :: st) g mi mr Q := tw_x_iload_n td_6_22 rfl
theorem td_6_23 : decode (tw_cd 6) 23 = .ok (.ireturn, 1) := by decide +kernel
theorem tz_6_23 : tw_E sc d 6 23 [x0, x1] ([.int v]) g mi mr Q = Q (some (.int v)) g mi mr := tw_x_iret td_6_23 tr_6
end tz_6
-- 7: Tl_sample
section tz_7
variable {sc : Nat × (Nat → Int32)} {d : Nat} {x0 x1 x2 x3 : Option Value} {st : List Value} {g : tw_G} {mi : tw_I} {mr : tw_Q} {Q : Option Value → tw_G → tw_I → tw_Q → Prop} {v w u : Int32} {a b : Nat} {j h : Int64} {s1 s2 s3 s4 : Value}
theorem td_7_0 : decode (tw_cd 7) 0 = .ok (.iload_n 1, 1) := by decide +kernel
theorem tz_7_0 : tw_E sc d 7 0 [x0, some (.int v), x2, x3] st g mi mr Q = tw_E sc d 7 1 [x0, some (.int v), x2, x3] (.int v :: st) g mi mr Q := tw_x_iload_n td_7_0 rfl
theorem td_7_1 : decode (tw_cd 7) 1 = .ok (.ifCond .lt 21, 3) := by decide +kernel
theorem tz_7_1 : tw_E sc d 7 1 [x0, x1, x2, x3] (.int v :: st) g mi mr Q = if v < 0 then tw_E sc d 7 22 [x0, x1, x2, x3] st g mi mr Q else tw_E sc d 7 4 [x0, x1, x2, x3] st g mi mr Q := tw_x_if_lt td_7_1 (by decide)
theorem td_7_4 : decode (tw_cd 7) 4 = .ok (.iload_n 1, 1) := by decide +kernel
theorem tz_7_4 : tw_E sc d 7 4 [x0, some (.int v), x2, x3] st g mi mr Q = tw_E sc d 7 5 [x0, some (.int v), x2, x3] (.int v :: st) g mi mr Q := tw_x_iload_n td_7_4 rfl
theorem td_7_5 : decode (tw_cd 7) 5 = .ok (.ldc 116, 2) := by decide +kernel
theorem tz_7_5 : tw_E sc d 7 5 [x0, x1, x2, x3] st g mi mr Q = tw_E sc d 7 7 [x0, x1, x2, x3] (.int 65535 :: st) g mi mr Q := tw_x_ldc td_7_5 to_7 tl_0_116
theorem td_7_7 : decode (tw_cd 7) 7 = .ok (.if_icmp .gt 15, 3) := by decide +kernel
theorem tz_7_7 : tw_E sc d 7 7 [x0, x1, x2, x3] (.int w :: .int v :: st) g mi mr Q = if w < v then tw_E sc d 7 22 [x0, x1, x2, x3] st g mi mr Q else tw_E sc d 7 10 [x0, x1, x2, x3] st g mi mr Q := tw_x_ic_gt td_7_7 (by decide)
theorem td_7_10 : decode (tw_cd 7) 10 = .ok (.iload_n 2, 1) := by decide +kernel
theorem tz_7_10 : tw_E sc d 7 10 [x0, x1, some (.int v), x3] st g mi mr Q = tw_E sc d 7 11 [x0, x1, some (.int v), x3] (.int v :: st) g mi mr Q := tw_x_iload_n td_7_10 rfl
theorem td_7_11 : decode (tw_cd 7) 11 = .ok (.iconst 1, 1) := by decide +kernel
theorem tz_7_11 : tw_E sc d 7 11 [x0, x1, x2, x3] st g mi mr Q = tw_E sc d 7 12 [x0, x1, x2, x3] (.int 1 :: st) g mi mr Q := tw_x_iconst td_7_11 (by decide)
theorem td_7_12 : decode (tw_cd 7) 12 = .ok (.if_icmp .lt 10, 3) := by decide +kernel
theorem tz_7_12 : tw_E sc d 7 12 [x0, x1, x2, x3] (.int w :: .int v :: st) g mi mr Q = if v < w then tw_E sc d 7 22 [x0, x1, x2, x3] st g mi mr Q else tw_E sc d 7 15 [x0, x1, x2, x3] st g mi mr Q := tw_x_ic_lt td_7_12 (by decide)
theorem td_7_15 : decode (tw_cd 7) 15 = .ok (.iload_n 2, 1) := by decide +kernel
theorem tz_7_15 : tw_E sc d 7 15 [x0, x1, some (.int v), x3] st g mi mr Q = tw_E sc d 7 16 [x0, x1, some (.int v), x3] (.int v :: st) g mi mr Q := tw_x_iload_n td_7_15 rfl
theorem td_7_16 : decode (tw_cd 7) 16 = .ok (.sipush 1000, 3) := by decide +kernel
theorem tz_7_16 : tw_E sc d 7 16 [x0, x1, x2, x3] st g mi mr Q = tw_E sc d 7 19 [x0, x1, x2, x3] (.int 1000 :: st) g mi mr Q := tw_x_sipush td_7_16 (by decide)
theorem td_7_19 : decode (tw_cd 7) 19 = .ok (.if_icmp .le 6, 3) := by decide +kernel
theorem tz_7_19 : tw_E sc d 7 19 [x0, x1, x2, x3] (.int w :: .int v :: st) g mi mr Q = if v ≤ w then tw_E sc d 7 25 [x0, x1, x2, x3] st g mi mr Q else tw_E sc d 7 22 [x0, x1, x2, x3] st g mi mr Q := tw_x_ic_le td_7_19 (by decide)
theorem td_7_22 : decode (tw_cd 7) 22 = .ok (.bipush (-2), 2) := by decide +kernel
theorem tz_7_22 : tw_E sc d 7 22 [x0, x1, x2, x3] st g mi mr Q = tw_E sc d 7 24 [x0, x1, x2, x3] (.int (-2) :: st) g mi mr Q := tw_x_bipush td_7_22 (by decide)
theorem td_7_24 : decode (tw_cd 7) 24 = .ok (.ireturn, 1) := by decide +kernel
theorem tz_7_24 : tw_E sc d 7 24 [x0, x1, x2, x3] ([.int v]) g mi mr Q = Q (some (.int v)) g mi mr := tw_x_iret td_7_24 tr_7
theorem td_7_25 : decode (tw_cd 7) 25 = .ok (.aload_n 0, 1) := by decide +kernel
theorem tz_7_25 : tw_E sc d 7 25 [some (.ref a), x1, x2, x3] st g mi mr Q = tw_E sc d 7 26 [some (.ref a), x1, x2, x3] (.ref a :: st) g mi mr Q := tw_x_aload_n td_7_25 rfl
theorem td_7_26 : decode (tw_cd 7) 26 = .ok (.iload_n 2, 1) := by decide +kernel
theorem tz_7_26 : tw_E sc d 7 26 [x0, x1, some (.int v), x3] st g mi mr Q = tw_E sc d 7 27 [x0, x1, some (.int v), x3] (.int v :: st) g mi mr Q := tw_x_iload_n td_7_26 rfl
theorem td_7_27 : decode (tw_cd 7) 27 = .ok (.invokevirtual 117, 3) := by decide +kernel
theorem tz_7_27 {a0 : Int32} : tw_E sc (d + 1) 7 27 [x0, x1, x2, x3] ([.int a0, .ref a]) g mi mr Q = (tw_kd g a = 0 ∧ tw_E sc d 26 0 [some (.ref a), some (.int a0)] [] g mi mr (tw_K sc (d + 1) 7 30 [x0, x1, x2, x3] [] Q)) := tw_x_cv (as := [.int a0]) (r := []) td_7_27 to_7 tc_0_117 to_26 rfl rfl rfl rfl
theorem td_7_30 : decode (tw_cd 7) 30 = .ok (.istore_n 3, 1) := by decide +kernel
theorem tz_7_30 : tw_E sc d 7 30 [x0, x1, x2, x3] (.int v :: st) g mi mr Q = tw_E sc d 7 31 [x0, x1, x2, some (.int v)] st g mi mr Q := tw_x_istore_n td_7_30 tp_7 rfl
theorem td_7_31 : decode (tw_cd 7) 31 = .ok (.iload_n 3, 1) := by decide +kernel
theorem tz_7_31 : tw_E sc d 7 31 [x0, x1, x2, some (.int v)] st g mi mr Q = tw_E sc d 7 32 [x0, x1, x2, some (.int v)] (.int v :: st) g mi mr Q := tw_x_iload_n td_7_31 rfl
theorem td_7_32 : decode (tw_cd 7) 32 = .ok (.ifCond .eq 7, 3) := by decide +kernel
theorem tz_7_32 : tw_E sc d 7 32 [x0, x1, x2, x3] (.int v :: st) g mi mr Q = if v = 0 then tw_E sc d 7 39 [x0, x1, x2, x3] st g mi mr Q else tw_E sc d 7 35 [x0, x1, x2, x3] st g mi mr Q := tw_x_if_eq td_7_32 (by decide)
theorem td_7_35 : decode (tw_cd 7) 35 = .ok (.iload_n 3, 1) := by decide +kernel
theorem tz_7_35 : tw_E sc d 7 35 [x0, x1, x2, some (.int v)] st g mi mr Q = tw_E sc d 7 36 [x0, x1, x2, some (.int v)] (.int v :: st) g mi mr Q := tw_x_iload_n td_7_35 rfl
theorem td_7_36 : decode (tw_cd 7) 36 = .ok (.goto 9, 3) := by decide +kernel
theorem tz_7_36 : tw_E sc d 7 36 [x0, x1, x2, x3] st g mi mr Q = tw_E sc d 7 45 [x0, x1, x2, x3] st g mi mr Q := tw_x_goto td_7_36 (by decide)
theorem td_7_39 : decode (tw_cd 7) 39 = .ok (.aload_n 0, 1) := by decide +kernel
theorem tz_7_39 : tw_E sc d 7 39 [some (.ref a), x1, x2, x3] st g mi mr Q = tw_E sc d 7 40 [some (.ref a), x1, x2, x3] (.ref a :: st) g mi mr Q := tw_x_aload_n td_7_39 rfl
theorem td_7_40 : decode (tw_cd 7) 40 = .ok (.iload_n 1, 1) := by decide +kernel
theorem tz_7_40 : tw_E sc d 7 40 [x0, some (.int v), x2, x3] st g mi mr Q = tw_E sc d 7 41 [x0, some (.int v), x2, x3] (.int v :: st) g mi mr Q := tw_x_iload_n td_7_40 rfl
theorem td_7_41 : decode (tw_cd 7) 41 = .ok (.iload_n 2, 1) := by decide +kernel
theorem tz_7_41 : tw_E sc d 7 41 [x0, x1, some (.int v), x3] st g mi mr Q = tw_E sc d 7 42 [x0, x1, some (.int v), x3] (.int v :: st) g mi mr Q := tw_x_iload_n td_7_41 rfl
theorem td_7_42 : decode (tw_cd 7) 42 = .ok (.invokevirtual 120, 3) := by decide +kernel
theorem tz_7_42 {a0 : Int32} {a1 : Int32} : tw_E sc (d + 1) 7 42 [x0, x1, x2, x3] ([.int a1, .int a0, .ref a]) g mi mr Q = (tw_kd g a = 0 ∧ tw_E sc d 28 0 [some (.ref a), some (.int a0), some (.int a1), none, none, none, none] [] g mi mr (tw_K sc (d + 1) 7 45 [x0, x1, x2, x3] [] Q)) := tw_x_cv (as := [.int a0, .int a1]) (r := []) td_7_42 to_7 tc_0_120 to_28 rfl rfl rfl rfl
theorem td_7_45 : decode (tw_cd 7) 45 = .ok (.ireturn, 1) := by decide +kernel
theorem tz_7_45 : tw_E sc d 7 45 [x0, x1, x2, x3] ([.int v]) g mi mr Q = Q (some (.int v)) g mi mr := tw_x_iret td_7_45 tr_7
end tz_7
-- 8: Tl_holds
section tz_8
variable {sc : Nat × (Nat → Int32)} {d : Nat} {x0 x1 x2 : Option Value} {st : List Value} {g : tw_G} {mi : tw_I} {mr : tw_Q} {Q : Option Value → tw_G → tw_I → tw_Q → Prop} {v w u : Int32} {a b : Nat} {j h : Int64} {s1 s2 s3 s4 : Value}
theorem td_8_0 : decode (tw_cd 8) 0 = .ok (.aload_n 0, 1) := by decide +kernel
theorem tz_8_0 : tw_E sc d 8 0 [some (.ref a), x1, x2] st g mi mr Q = tw_E sc d 8 1 [some (.ref a), x1, x2] (.ref a :: st) g mi mr Q := tw_x_aload_n td_8_0 rfl
theorem td_8_1 : decode (tw_cd 8) 1 = .ok (.getfield 12, 3) := by decide +kernel
theorem tz_8_1 : tw_E sc d 8 1 [x0, x1, x2] (.ref a :: st) g mi mr Q = (tw_kd g a = 0 ∧ tw_E sc d 8 4 [x0, x1, x2] (va_rf (mr a 7) :: st) g mi mr Q) := tw_x_getr td_8_1 to_8 tf_0_12 (trf_0_7)
theorem td_8_4 : decode (tw_cd 8) 4 = .ok (.iload_n 1, 1) := by decide +kernel
theorem tz_8_4 : tw_E sc d 8 4 [x0, some (.int v), x2] st g mi mr Q = tw_E sc d 8 5 [x0, some (.int v), x2] (.int v :: st) g mi mr Q := tw_x_iload_n td_8_4 rfl
theorem td_8_5 : decode (tw_cd 8) 5 = .ok (.invokevirtual 97, 3) := by decide +kernel
theorem tz_8_5 {a0 : Int32} : tw_E sc (d + 1) 8 5 [x0, x1, x2] ([.int a0, .ref a]) g mi mr Q = (tw_kd g a = 1 ∧ tw_E sc d 39 0 [some (.ref a), some (.int a0)] [] g mi mr (tw_K sc (d + 1) 8 8 [x0, x1, x2] [] Q)) := tw_x_cv (as := [.int a0]) (r := []) td_8_5 to_8 tc_0_97 to_39 rfl rfl rfl rfl
theorem td_8_8 : decode (tw_cd 8) 8 = .ok (.astore_n 2, 1) := by decide +kernel
theorem tz_8_8 : tw_E sc d 8 8 [x0, x1, x2] (.ref a :: st) g mi mr Q = tw_E sc d 8 9 [x0, x1, some (.ref a)] st g mi mr Q := tw_x_astore_n td_8_8 tp_8 rfl
theorem tz_8_8n : tw_E sc d 8 8 [x0, x1, x2] (.null :: st) g mi mr Q = tw_E sc d 8 9 [x0, x1, some .null] st g mi mr Q := tw_x_astore_nN td_8_8 tp_8 rfl
theorem td_8_9 : decode (tw_cd 8) 9 = .ok (.aload_n 2, 1) := by decide +kernel
theorem tz_8_9 : tw_E sc d 8 9 [x0, x1, some (.ref a)] st g mi mr Q = tw_E sc d 8 10 [x0, x1, some (.ref a)] (.ref a :: st) g mi mr Q := tw_x_aload_n td_8_9 rfl
theorem tz_8_9n : tw_E sc d 8 9 [x0, x1, some .null] st g mi mr Q = tw_E sc d 8 10 [x0, x1, some .null] (.null :: st) g mi mr Q := tw_x_aload_nN td_8_9 rfl
theorem td_8_10 : decode (tw_cd 8) 10 = .ok (.ifnonnull 5, 3) := by decide +kernel
theorem tz_8_10 : tw_E sc d 8 10 [x0, x1, x2] (.ref a :: st) g mi mr Q = tw_E sc d 8 15 [x0, x1, x2] st g mi mr Q := tw_x_ifnonnull td_8_10 (by decide)
theorem tz_8_10n : tw_E sc d 8 10 [x0, x1, x2] (.null :: st) g mi mr Q = tw_E sc d 8 13 [x0, x1, x2] st g mi mr Q := tw_x_ifnonnullN td_8_10
theorem td_8_13 : decode (tw_cd 8) 13 = .ok (.iconst (-1), 1) := by decide +kernel
theorem tz_8_13 : tw_E sc d 8 13 [x0, x1, x2] st g mi mr Q = tw_E sc d 8 14 [x0, x1, x2] (.int (-1) :: st) g mi mr Q := tw_x_iconst td_8_13 (by decide)
theorem td_8_14 : decode (tw_cd 8) 14 = .ok (.ireturn, 1) := by decide +kernel
theorem tz_8_14 : tw_E sc d 8 14 [x0, x1, x2] ([.int v]) g mi mr Q = Q (some (.int v)) g mi mr := tw_x_iret td_8_14 tr_8
theorem td_8_15 : decode (tw_cd 8) 15 = .ok (.aload_n 2, 1) := by decide +kernel
theorem tz_8_15 : tw_E sc d 8 15 [x0, x1, some (.ref a)] st g mi mr Q = tw_E sc d 8 16 [x0, x1, some (.ref a)] (.ref a :: st) g mi mr Q := tw_x_aload_n td_8_15 rfl
theorem tz_8_15n : tw_E sc d 8 15 [x0, x1, some .null] st g mi mr Q = tw_E sc d 8 16 [x0, x1, some .null] (.null :: st) g mi mr Q := tw_x_aload_nN td_8_15 rfl
theorem td_8_16 : decode (tw_cd 8) 16 = .ok (.invokevirtual 124, 3) := by decide +kernel
theorem tz_8_16 : tw_E sc (d + 1) 8 16 [x0, x1, x2] ([.ref a]) g mi mr Q = (tw_kd g a = 2 ∧ tw_E sc d 47 0 [some (.ref a)] [] g mi mr (tw_K sc (d + 1) 8 19 [x0, x1, x2] [] Q)) := tw_x_cv (as := []) (r := []) td_8_16 to_8 tc_0_124 to_47 rfl rfl rfl rfl
theorem td_8_19 : decode (tw_cd 8) 19 = .ok (.ifCond .eq 7, 3) := by decide +kernel
theorem tz_8_19 : tw_E sc d 8 19 [x0, x1, x2] (.int v :: st) g mi mr Q = if v = 0 then tw_E sc d 8 26 [x0, x1, x2] st g mi mr Q else tw_E sc d 8 22 [x0, x1, x2] st g mi mr Q := tw_x_if_eq td_8_19 (by decide)
theorem td_8_22 : decode (tw_cd 8) 22 = .ok (.iconst 1, 1) := by decide +kernel
theorem tz_8_22 : tw_E sc d 8 22 [x0, x1, x2] st g mi mr Q = tw_E sc d 8 23 [x0, x1, x2] (.int 1 :: st) g mi mr Q := tw_x_iconst td_8_22 (by decide)
theorem td_8_23 : decode (tw_cd 8) 23 = .ok (.goto 4, 3) := by decide +kernel
theorem tz_8_23 : tw_E sc d 8 23 [x0, x1, x2] st g mi mr Q = tw_E sc d 8 27 [x0, x1, x2] st g mi mr Q := tw_x_goto td_8_23 (by decide)
theorem td_8_26 : decode (tw_cd 8) 26 = .ok (.iconst 0, 1) := by decide +kernel
theorem tz_8_26 : tw_E sc d 8 26 [x0, x1, x2] st g mi mr Q = tw_E sc d 8 27 [x0, x1, x2] (.int 0 :: st) g mi mr Q := tw_x_iconst td_8_26 (by decide)
theorem td_8_27 : decode (tw_cd 8) 27 = .ok (.ireturn, 1) := by decide +kernel
theorem tz_8_27 : tw_E sc d 8 27 [x0, x1, x2] ([.int v]) g mi mr Q = Q (some (.int v)) g mi mr := tw_x_iret td_8_27 tr_8
end tz_8
-- 9: Tl_waits
section tz_9
variable {sc : Nat × (Nat → Int32)} {d : Nat} {x0 x1 x2 : Option Value} {st : List Value} {g : tw_G} {mi : tw_I} {mr : tw_Q} {Q : Option Value → tw_G → tw_I → tw_Q → Prop} {v w u : Int32} {a b : Nat} {j h : Int64} {s1 s2 s3 s4 : Value}
theorem td_9_0 : decode (tw_cd 9) 0 = .ok (.aload_n 0, 1) := by decide +kernel
theorem tz_9_0 : tw_E sc d 9 0 [some (.ref a), x1, x2] st g mi mr Q = tw_E sc d 9 1 [some (.ref a), x1, x2] (.ref a :: st) g mi mr Q := tw_x_aload_n td_9_0 rfl
theorem td_9_1 : decode (tw_cd 9) 1 = .ok (.getfield 12, 3) := by decide +kernel
theorem tz_9_1 : tw_E sc d 9 1 [x0, x1, x2] (.ref a :: st) g mi mr Q = (tw_kd g a = 0 ∧ tw_E sc d 9 4 [x0, x1, x2] (va_rf (mr a 7) :: st) g mi mr Q) := tw_x_getr td_9_1 to_9 tf_0_12 (trf_0_7)
theorem td_9_4 : decode (tw_cd 9) 4 = .ok (.iload_n 1, 1) := by decide +kernel
theorem tz_9_4 : tw_E sc d 9 4 [x0, some (.int v), x2] st g mi mr Q = tw_E sc d 9 5 [x0, some (.int v), x2] (.int v :: st) g mi mr Q := tw_x_iload_n td_9_4 rfl
theorem td_9_5 : decode (tw_cd 9) 5 = .ok (.invokevirtual 97, 3) := by decide +kernel
theorem tz_9_5 {a0 : Int32} : tw_E sc (d + 1) 9 5 [x0, x1, x2] ([.int a0, .ref a]) g mi mr Q = (tw_kd g a = 1 ∧ tw_E sc d 39 0 [some (.ref a), some (.int a0)] [] g mi mr (tw_K sc (d + 1) 9 8 [x0, x1, x2] [] Q)) := tw_x_cv (as := [.int a0]) (r := []) td_9_5 to_9 tc_0_97 to_39 rfl rfl rfl rfl
theorem td_9_8 : decode (tw_cd 9) 8 = .ok (.astore_n 2, 1) := by decide +kernel
theorem tz_9_8 : tw_E sc d 9 8 [x0, x1, x2] (.ref a :: st) g mi mr Q = tw_E sc d 9 9 [x0, x1, some (.ref a)] st g mi mr Q := tw_x_astore_n td_9_8 tp_9 rfl
theorem tz_9_8n : tw_E sc d 9 8 [x0, x1, x2] (.null :: st) g mi mr Q = tw_E sc d 9 9 [x0, x1, some .null] st g mi mr Q := tw_x_astore_nN td_9_8 tp_9 rfl
theorem td_9_9 : decode (tw_cd 9) 9 = .ok (.aload_n 2, 1) := by decide +kernel
theorem tz_9_9 : tw_E sc d 9 9 [x0, x1, some (.ref a)] st g mi mr Q = tw_E sc d 9 10 [x0, x1, some (.ref a)] (.ref a :: st) g mi mr Q := tw_x_aload_n td_9_9 rfl
theorem tz_9_9n : tw_E sc d 9 9 [x0, x1, some .null] st g mi mr Q = tw_E sc d 9 10 [x0, x1, some .null] (.null :: st) g mi mr Q := tw_x_aload_nN td_9_9 rfl
theorem td_9_10 : decode (tw_cd 9) 10 = .ok (.ifnonnull 7, 3) := by decide +kernel
theorem tz_9_10 : tw_E sc d 9 10 [x0, x1, x2] (.ref a :: st) g mi mr Q = tw_E sc d 9 17 [x0, x1, x2] st g mi mr Q := tw_x_ifnonnull td_9_10 (by decide)
theorem tz_9_10n : tw_E sc d 9 10 [x0, x1, x2] (.null :: st) g mi mr Q = tw_E sc d 9 13 [x0, x1, x2] st g mi mr Q := tw_x_ifnonnullN td_9_10
theorem td_9_13 : decode (tw_cd 9) 13 = .ok (.iconst (-1), 1) := by decide +kernel
theorem tz_9_13 : tw_E sc d 9 13 [x0, x1, x2] st g mi mr Q = tw_E sc d 9 14 [x0, x1, x2] (.int (-1) :: st) g mi mr Q := tw_x_iconst td_9_13 (by decide)
theorem td_9_14 : decode (tw_cd 9) 14 = .ok (.goto 7, 3) := by decide +kernel
theorem tz_9_14 : tw_E sc d 9 14 [x0, x1, x2] st g mi mr Q = tw_E sc d 9 21 [x0, x1, x2] st g mi mr Q := tw_x_goto td_9_14 (by decide)
theorem td_9_17 : decode (tw_cd 9) 17 = .ok (.aload_n 2, 1) := by decide +kernel
theorem tz_9_17 : tw_E sc d 9 17 [x0, x1, some (.ref a)] st g mi mr Q = tw_E sc d 9 18 [x0, x1, some (.ref a)] (.ref a :: st) g mi mr Q := tw_x_aload_n td_9_17 rfl
theorem tz_9_17n : tw_E sc d 9 17 [x0, x1, some .null] st g mi mr Q = tw_E sc d 9 18 [x0, x1, some .null] (.null :: st) g mi mr Q := tw_x_aload_nN td_9_17 rfl
theorem td_9_18 : decode (tw_cd 9) 18 = .ok (.invokevirtual 127, 3) := by decide +kernel
theorem tz_9_18 : tw_E sc (d + 1) 9 18 [x0, x1, x2] ([.ref a]) g mi mr Q = (tw_kd g a = 2 ∧ tw_E sc d 50 0 [some (.ref a)] [] g mi mr (tw_K sc (d + 1) 9 21 [x0, x1, x2] [] Q)) := tw_x_cv (as := []) (r := []) td_9_18 to_9 tc_0_127 to_50 rfl rfl rfl rfl
theorem td_9_21 : decode (tw_cd 9) 21 = .ok (.ireturn, 1) := by decide +kernel
theorem tz_9_21 : tw_E sc d 9 21 [x0, x1, x2] ([.int v]) g mi mr Q = Q (some (.int v)) g mi mr := tw_x_iret td_9_21 tr_9
end tz_9
-- 10: Tl_held
section tz_10
variable {sc : Nat × (Nat → Int32)} {d : Nat} {x0 x1 : Option Value} {st : List Value} {g : tw_G} {mi : tw_I} {mr : tw_Q} {Q : Option Value → tw_G → tw_I → tw_Q → Prop} {v w u : Int32} {a b : Nat} {j h : Int64} {s1 s2 s3 s4 : Value}
theorem td_10_0 : decode (tw_cd 10) 0 = .ok (.aload_n 0, 1) := by decide +kernel
theorem tz_10_0 : tw_E sc d 10 0 [some (.ref a), x1] st g mi mr Q = tw_E sc d 10 1 [some (.ref a), x1] (.ref a :: st) g mi mr Q := tw_x_aload_n td_10_0 rfl
theorem td_10_1 : decode (tw_cd 10) 1 = .ok (.getfield 38, 3) := by decide +kernel
theorem tz_10_1 : tw_E sc d 10 1 [x0, x1] (.ref a :: st) g mi mr Q = (tw_kd g a = 0 ∧ tw_E sc d 10 4 [x0, x1] (va_rf (mr a 2) :: st) g mi mr Q) := tw_x_getr td_10_1 to_10 tf_0_38 (trf_0_2)
theorem td_10_4 : decode (tw_cd 10) 4 = .ok (.iload_n 1, 1) := by decide +kernel
theorem tz_10_4 : tw_E sc d 10 4 [x0, some (.int v)] st g mi mr Q = tw_E sc d 10 5 [x0, some (.int v)] (.int v :: st) g mi mr Q := tw_x_iload_n td_10_4 rfl
theorem td_10_5 : decode (tw_cd 10) 5 = .ok (.invokevirtual 130, 3) := by decide +kernel
theorem tz_10_5 {a0 : Int32} : tw_E sc (d + 1) 10 5 [x0, x1] ([.int a0, .ref a]) g mi mr Q = (tw_kd g a = 5 ∧ tw_E sc d 94 0 [some (.ref a), some (.int a0)] [] g mi mr (tw_K sc (d + 1) 10 8 [x0, x1] [] Q)) := tw_x_cv (as := [.int a0]) (r := []) td_10_5 to_10 tc_0_130 to_94 rfl rfl rfl rfl
theorem td_10_8 : decode (tw_cd 10) 8 = .ok (.ifCond .ne 5, 3) := by decide +kernel
theorem tz_10_8 : tw_E sc d 10 8 [x0, x1] (.int v :: st) g mi mr Q = if ¬ v = 0 then tw_E sc d 10 13 [x0, x1] st g mi mr Q else tw_E sc d 10 11 [x0, x1] st g mi mr Q := tw_x_if_ne td_10_8 (by decide)
theorem td_10_11 : decode (tw_cd 10) 11 = .ok (.iconst (-1), 1) := by decide +kernel
theorem tz_10_11 : tw_E sc d 10 11 [x0, x1] st g mi mr Q = tw_E sc d 10 12 [x0, x1] (.int (-1) :: st) g mi mr Q := tw_x_iconst td_10_11 (by decide)
theorem td_10_12 : decode (tw_cd 10) 12 = .ok (.ireturn, 1) := by decide +kernel
theorem tz_10_12 : tw_E sc d 10 12 [x0, x1] ([.int v]) g mi mr Q = Q (some (.int v)) g mi mr := tw_x_iret td_10_12 tr_10
theorem td_10_13 : decode (tw_cd 10) 13 = .ok (.aload_n 0, 1) := by decide +kernel
theorem tz_10_13 : tw_E sc d 10 13 [some (.ref a), x1] st g mi mr Q = tw_E sc d 10 14 [some (.ref a), x1] (.ref a :: st) g mi mr Q := tw_x_aload_n td_10_13 rfl
theorem td_10_14 : decode (tw_cd 10) 14 = .ok (.getfield 38, 3) := by decide +kernel
theorem tz_10_14 : tw_E sc d 10 14 [x0, x1] (.ref a :: st) g mi mr Q = (tw_kd g a = 0 ∧ tw_E sc d 10 17 [x0, x1] (va_rf (mr a 2) :: st) g mi mr Q) := tw_x_getr td_10_14 to_10 tf_0_38 (trf_0_2)
theorem td_10_17 : decode (tw_cd 10) 17 = .ok (.iload_n 1, 1) := by decide +kernel
theorem tz_10_17 : tw_E sc d 10 17 [x0, some (.int v)] st g mi mr Q = tw_E sc d 10 18 [x0, some (.int v)] (.int v :: st) g mi mr Q := tw_x_iload_n td_10_17 rfl
theorem td_10_18 : decode (tw_cd 10) 18 = .ok (.invokevirtual 133, 3) := by decide +kernel
theorem tz_10_18 {a0 : Int32} : tw_E sc (d + 1) 10 18 [x0, x1] ([.int a0, .ref a]) g mi mr Q = (tw_kd g a = 5 ∧ tw_E sc d 97 0 [some (.ref a), some (.int a0)] [] g mi mr (tw_K sc (d + 1) 10 21 [x0, x1] [] Q)) := tw_x_cv (as := [.int a0]) (r := []) td_10_18 to_10 tc_0_133 to_97 rfl rfl rfl rfl
theorem td_10_21 : decode (tw_cd 10) 21 = .ok (.ifCond .eq 7, 3) := by decide +kernel
theorem tz_10_21 : tw_E sc d 10 21 [x0, x1] (.int v :: st) g mi mr Q = if v = 0 then tw_E sc d 10 28 [x0, x1] st g mi mr Q else tw_E sc d 10 24 [x0, x1] st g mi mr Q := tw_x_if_eq td_10_21 (by decide)
theorem td_10_24 : decode (tw_cd 10) 24 = .ok (.iconst 1, 1) := by decide +kernel
theorem tz_10_24 : tw_E sc d 10 24 [x0, x1] st g mi mr Q = tw_E sc d 10 25 [x0, x1] (.int 1 :: st) g mi mr Q := tw_x_iconst td_10_24 (by decide)
theorem td_10_25 : decode (tw_cd 10) 25 = .ok (.goto 4, 3) := by decide +kernel
theorem tz_10_25 : tw_E sc d 10 25 [x0, x1] st g mi mr Q = tw_E sc d 10 29 [x0, x1] st g mi mr Q := tw_x_goto td_10_25 (by decide)
theorem td_10_28 : decode (tw_cd 10) 28 = .ok (.iconst 0, 1) := by decide +kernel
theorem tz_10_28 : tw_E sc d 10 28 [x0, x1] st g mi mr Q = tw_E sc d 10 29 [x0, x1] (.int 0 :: st) g mi mr Q := tw_x_iconst td_10_28 (by decide)
theorem td_10_29 : decode (tw_cd 10) 29 = .ok (.ireturn, 1) := by decide +kernel
theorem tz_10_29 : tw_E sc d 10 29 [x0, x1] ([.int v]) g mi mr Q = Q (some (.int v)) g mi mr := tw_x_iret td_10_29 tr_10
end tz_10
-- 11: Tl_when
section tz_11
variable {sc : Nat × (Nat → Int32)} {d : Nat} {x0 x1 : Option Value} {st : List Value} {g : tw_G} {mi : tw_I} {mr : tw_Q} {Q : Option Value → tw_G → tw_I → tw_Q → Prop} {v w u : Int32} {a b : Nat} {j h : Int64} {s1 s2 s3 s4 : Value}
theorem td_11_0 : decode (tw_cd 11) 0 = .ok (.aload_n 0, 1) := by decide +kernel
theorem tz_11_0 : tw_E sc d 11 0 [some (.ref a), x1] st g mi mr Q = tw_E sc d 11 1 [some (.ref a), x1] (.ref a :: st) g mi mr Q := tw_x_aload_n td_11_0 rfl
theorem td_11_1 : decode (tw_cd 11) 1 = .ok (.getfield 38, 3) := by decide +kernel
theorem tz_11_1 : tw_E sc d 11 1 [x0, x1] (.ref a :: st) g mi mr Q = (tw_kd g a = 0 ∧ tw_E sc d 11 4 [x0, x1] (va_rf (mr a 2) :: st) g mi mr Q) := tw_x_getr td_11_1 to_11 tf_0_38 (trf_0_2)
theorem td_11_4 : decode (tw_cd 11) 4 = .ok (.iload_n 1, 1) := by decide +kernel
theorem tz_11_4 : tw_E sc d 11 4 [x0, some (.int v)] st g mi mr Q = tw_E sc d 11 5 [x0, some (.int v)] (.int v :: st) g mi mr Q := tw_x_iload_n td_11_4 rfl
theorem td_11_5 : decode (tw_cd 11) 5 = .ok (.invokevirtual 136, 3) := by decide +kernel
theorem tz_11_5 {a0 : Int32} : tw_E sc (d + 1) 11 5 [x0, x1] ([.int a0, .ref a]) g mi mr Q = (tw_kd g a = 5 ∧ tw_E sc d 98 0 [some (.ref a), some (.int a0), none, none] [] g mi mr (tw_K sc (d + 1) 11 8 [x0, x1] [] Q)) := tw_x_cv (as := [.int a0]) (r := []) td_11_5 to_11 tc_0_136 to_98 rfl rfl rfl rfl
theorem td_11_8 : decode (tw_cd 11) 8 = .ok (.ireturn, 1) := by decide +kernel
theorem tz_11_8 : tw_E sc d 11 8 [x0, x1] ([.int v]) g mi mr Q = Q (some (.int v)) g mi mr := tw_x_iret td_11_8 tr_11
end tz_11
-- 12: Tl_at
section tz_12
variable {sc : Nat × (Nat → Int32)} {d : Nat} {x0 x1 : Option Value} {st : List Value} {g : tw_G} {mi : tw_I} {mr : tw_Q} {Q : Option Value → tw_G → tw_I → tw_Q → Prop} {v w u : Int32} {a b : Nat} {j h : Int64} {s1 s2 s3 s4 : Value}
theorem td_12_0 : decode (tw_cd 12) 0 = .ok (.aload_n 0, 1) := by decide +kernel
theorem tz_12_0 : tw_E sc d 12 0 [some (.ref a), x1] st g mi mr Q = tw_E sc d 12 1 [some (.ref a), x1] (.ref a :: st) g mi mr Q := tw_x_aload_n td_12_0 rfl
theorem td_12_1 : decode (tw_cd 12) 1 = .ok (.getfield 38, 3) := by decide +kernel
theorem tz_12_1 : tw_E sc d 12 1 [x0, x1] (.ref a :: st) g mi mr Q = (tw_kd g a = 0 ∧ tw_E sc d 12 4 [x0, x1] (va_rf (mr a 2) :: st) g mi mr Q) := tw_x_getr td_12_1 to_12 tf_0_38 (trf_0_2)
theorem td_12_4 : decode (tw_cd 12) 4 = .ok (.iload_n 1, 1) := by decide +kernel
theorem tz_12_4 : tw_E sc d 12 4 [x0, some (.int v)] st g mi mr Q = tw_E sc d 12 5 [x0, some (.int v)] (.int v :: st) g mi mr Q := tw_x_iload_n td_12_4 rfl
theorem td_12_5 : decode (tw_cd 12) 5 = .ok (.invokevirtual 139, 3) := by decide +kernel
theorem tz_12_5 {a0 : Int32} : tw_E sc (d + 1) 12 5 [x0, x1] ([.int a0, .ref a]) g mi mr Q = (tw_kd g a = 5 ∧ tw_E sc d 95 0 [some (.ref a), some (.int a0)] [] g mi mr (tw_K sc (d + 1) 12 8 [x0, x1] [] Q)) := tw_x_cv (as := [.int a0]) (r := []) td_12_5 to_12 tc_0_139 to_95 rfl rfl rfl rfl
theorem td_12_8 : decode (tw_cd 12) 8 = .ok (.ireturn, 1) := by decide +kernel
theorem tz_12_8 : tw_E sc d 12 8 [x0, x1] ([.int v]) g mi mr Q = Q (some (.int v)) g mi mr := tw_x_iret td_12_8 tr_12
end tz_12
-- 13: Tl_grab
section tz_13
variable {sc : Nat × (Nat → Int32)} {d : Nat} {x0 x1 x2 x3 x4 x5 x6 : Option Value} {st : List Value} {g : tw_G} {mi : tw_I} {mr : tw_Q} {Q : Option Value → tw_G → tw_I → tw_Q → Prop} {v w u : Int32} {a b : Nat} {j h : Int64} {s1 s2 s3 s4 : Value}
theorem td_13_0 : decode (tw_cd 13) 0 = .ok (.aload_n 0, 1) := by decide +kernel
theorem tz_13_0 : tw_E sc d 13 0 [some (.ref a), x1, x2, x3, x4, x5, x6] st g mi mr Q = tw_E sc d 13 1 [some (.ref a), x1, x2, x3, x4, x5, x6] (.ref a :: st) g mi mr Q := tw_x_aload_n td_13_0 rfl
theorem td_13_1 : decode (tw_cd 13) 1 = .ok (.getfield 38, 3) := by decide +kernel
theorem tz_13_1 : tw_E sc d 13 1 [x0, x1, x2, x3, x4, x5, x6] (.ref a :: st) g mi mr Q = (tw_kd g a = 0 ∧ tw_E sc d 13 4 [x0, x1, x2, x3, x4, x5, x6] (va_rf (mr a 2) :: st) g mi mr Q) := tw_x_getr td_13_1 to_13 tf_0_38 (trf_0_2)
theorem td_13_4 : decode (tw_cd 13) 4 = .ok (.iload_n 1, 1) := by decide +kernel
theorem tz_13_4 : tw_E sc d 13 4 [x0, some (.int v), x2, x3, x4, x5, x6] st g mi mr Q = tw_E sc d 13 5 [x0, some (.int v), x2, x3, x4, x5, x6] (.int v :: st) g mi mr Q := tw_x_iload_n td_13_4 rfl
theorem td_13_5 : decode (tw_cd 13) 5 = .ok (.invokevirtual 136, 3) := by decide +kernel
theorem tz_13_5 {a0 : Int32} : tw_E sc (d + 1) 13 5 [x0, x1, x2, x3, x4, x5, x6] ([.int a0, .ref a]) g mi mr Q = (tw_kd g a = 5 ∧ tw_E sc d 98 0 [some (.ref a), some (.int a0), none, none] [] g mi mr (tw_K sc (d + 1) 13 8 [x0, x1, x2, x3, x4, x5, x6] [] Q)) := tw_x_cv (as := [.int a0]) (r := []) td_13_5 to_13 tc_0_136 to_98 rfl rfl rfl rfl
theorem td_13_8 : decode (tw_cd 13) 8 = .ok (.istore 4, 2) := by decide +kernel
theorem tz_13_8 : tw_E sc d 13 8 [x0, x1, x2, x3, x4, x5, x6] (.int v :: st) g mi mr Q = tw_E sc d 13 10 [x0, x1, x2, x3, some (.int v), x5, x6] st g mi mr Q := tw_x_istore td_13_8 tp_13 rfl
theorem td_13_10 : decode (tw_cd 13) 10 = .ok (.iload 4, 2) := by decide +kernel
theorem tz_13_10 : tw_E sc d 13 10 [x0, x1, x2, x3, some (.int v), x5, x6] st g mi mr Q = tw_E sc d 13 12 [x0, x1, x2, x3, some (.int v), x5, x6] (.int v :: st) g mi mr Q := tw_x_iload td_13_10 rfl
theorem td_13_12 : decode (tw_cd 13) 12 = .ok (.bipush (-9), 2) := by decide +kernel
theorem tz_13_12 : tw_E sc d 13 12 [x0, x1, x2, x3, x4, x5, x6] st g mi mr Q = tw_E sc d 13 14 [x0, x1, x2, x3, x4, x5, x6] (.int (-9) :: st) g mi mr Q := tw_x_bipush td_13_12 (by decide)
theorem td_13_14 : decode (tw_cd 13) 14 = .ok (.if_icmp .ne 5, 3) := by decide +kernel
theorem tz_13_14 : tw_E sc d 13 14 [x0, x1, x2, x3, x4, x5, x6] (.int w :: .int v :: st) g mi mr Q = if ¬ v = w then tw_E sc d 13 19 [x0, x1, x2, x3, x4, x5, x6] st g mi mr Q else tw_E sc d 13 17 [x0, x1, x2, x3, x4, x5, x6] st g mi mr Q := tw_x_ic_ne td_13_14 (by decide)
theorem td_13_17 : decode (tw_cd 13) 17 = .ok (.iconst (-1), 1) := by decide +kernel
theorem tz_13_17 : tw_E sc d 13 17 [x0, x1, x2, x3, x4, x5, x6] st g mi mr Q = tw_E sc d 13 18 [x0, x1, x2, x3, x4, x5, x6] (.int (-1) :: st) g mi mr Q := tw_x_iconst td_13_17 (by decide)
theorem td_13_18 : decode (tw_cd 13) 18 = .ok (.ireturn, 1) := by decide +kernel
theorem tz_13_18 : tw_E sc d 13 18 [x0, x1, x2, x3, x4, x5, x6] ([.int v]) g mi mr Q = Q (some (.int v)) g mi mr := tw_x_iret td_13_18 tr_13
theorem td_13_19 : decode (tw_cd 13) 19 = .ok (.iload_n 2, 1) := by decide +kernel
theorem tz_13_19 : tw_E sc d 13 19 [x0, x1, some (.int v), x3, x4, x5, x6] st g mi mr Q = tw_E sc d 13 20 [x0, x1, some (.int v), x3, x4, x5, x6] (.int v :: st) g mi mr Q := tw_x_iload_n td_13_19 rfl
theorem td_13_20 : decode (tw_cd 13) 20 = .ok (.ifCond .lt 21, 3) := by decide +kernel
theorem tz_13_20 : tw_E sc d 13 20 [x0, x1, x2, x3, x4, x5, x6] (.int v :: st) g mi mr Q = if v < 0 then tw_E sc d 13 41 [x0, x1, x2, x3, x4, x5, x6] st g mi mr Q else tw_E sc d 13 23 [x0, x1, x2, x3, x4, x5, x6] st g mi mr Q := tw_x_if_lt td_13_20 (by decide)
theorem td_13_23 : decode (tw_cd 13) 23 = .ok (.iload_n 2, 1) := by decide +kernel
theorem tz_13_23 : tw_E sc d 13 23 [x0, x1, some (.int v), x3, x4, x5, x6] st g mi mr Q = tw_E sc d 13 24 [x0, x1, some (.int v), x3, x4, x5, x6] (.int v :: st) g mi mr Q := tw_x_iload_n td_13_23 rfl
theorem td_13_24 : decode (tw_cd 13) 24 = .ok (.sipush 500, 3) := by decide +kernel
theorem tz_13_24 : tw_E sc d 13 24 [x0, x1, x2, x3, x4, x5, x6] st g mi mr Q = tw_E sc d 13 27 [x0, x1, x2, x3, x4, x5, x6] (.int 500 :: st) g mi mr Q := tw_x_sipush td_13_24 (by decide)
theorem td_13_27 : decode (tw_cd 13) 27 = .ok (.if_icmp .gt 14, 3) := by decide +kernel
theorem tz_13_27 : tw_E sc d 13 27 [x0, x1, x2, x3, x4, x5, x6] (.int w :: .int v :: st) g mi mr Q = if w < v then tw_E sc d 13 41 [x0, x1, x2, x3, x4, x5, x6] st g mi mr Q else tw_E sc d 13 30 [x0, x1, x2, x3, x4, x5, x6] st g mi mr Q := tw_x_ic_gt td_13_27 (by decide)
theorem td_13_30 : decode (tw_cd 13) 30 = .ok (.iload_n 3, 1) := by decide +kernel
theorem tz_13_30 : tw_E sc d 13 30 [x0, x1, x2, some (.int v), x4, x5, x6] st g mi mr Q = tw_E sc d 13 31 [x0, x1, x2, some (.int v), x4, x5, x6] (.int v :: st) g mi mr Q := tw_x_iload_n td_13_30 rfl
theorem td_13_31 : decode (tw_cd 13) 31 = .ok (.ifCond .lt 10, 3) := by decide +kernel
theorem tz_13_31 : tw_E sc d 13 31 [x0, x1, x2, x3, x4, x5, x6] (.int v :: st) g mi mr Q = if v < 0 then tw_E sc d 13 41 [x0, x1, x2, x3, x4, x5, x6] st g mi mr Q else tw_E sc d 13 34 [x0, x1, x2, x3, x4, x5, x6] st g mi mr Q := tw_x_if_lt td_13_31 (by decide)
theorem td_13_34 : decode (tw_cd 13) 34 = .ok (.iload_n 3, 1) := by decide +kernel
theorem tz_13_34 : tw_E sc d 13 34 [x0, x1, x2, some (.int v), x4, x5, x6] st g mi mr Q = tw_E sc d 13 35 [x0, x1, x2, some (.int v), x4, x5, x6] (.int v :: st) g mi mr Q := tw_x_iload_n td_13_34 rfl
theorem td_13_35 : decode (tw_cd 13) 35 = .ok (.sipush 500, 3) := by decide +kernel
theorem tz_13_35 : tw_E sc d 13 35 [x0, x1, x2, x3, x4, x5, x6] st g mi mr Q = tw_E sc d 13 38 [x0, x1, x2, x3, x4, x5, x6] (.int 500 :: st) g mi mr Q := tw_x_sipush td_13_35 (by decide)
theorem td_13_38 : decode (tw_cd 13) 38 = .ok (.if_icmp .le 6, 3) := by decide +kernel
theorem tz_13_38 : tw_E sc d 13 38 [x0, x1, x2, x3, x4, x5, x6] (.int w :: .int v :: st) g mi mr Q = if v ≤ w then tw_E sc d 13 44 [x0, x1, x2, x3, x4, x5, x6] st g mi mr Q else tw_E sc d 13 41 [x0, x1, x2, x3, x4, x5, x6] st g mi mr Q := tw_x_ic_le td_13_38 (by decide)
theorem td_13_41 : decode (tw_cd 13) 41 = .ok (.bipush (-2), 2) := by decide +kernel
theorem tz_13_41 : tw_E sc d 13 41 [x0, x1, x2, x3, x4, x5, x6] st g mi mr Q = tw_E sc d 13 43 [x0, x1, x2, x3, x4, x5, x6] (.int (-2) :: st) g mi mr Q := tw_x_bipush td_13_41 (by decide)
theorem td_13_43 : decode (tw_cd 13) 43 = .ok (.ireturn, 1) := by decide +kernel
theorem tz_13_43 : tw_E sc d 13 43 [x0, x1, x2, x3, x4, x5, x6] ([.int v]) g mi mr Q = Q (some (.int v)) g mi mr := tw_x_iret td_13_43 tr_13
theorem td_13_44 : decode (tw_cd 13) 44 = .ok (.aload_n 0, 1) := by decide +kernel
theorem tz_13_44 : tw_E sc d 13 44 [some (.ref a), x1, x2, x3, x4, x5, x6] st g mi mr Q = tw_E sc d 13 45 [some (.ref a), x1, x2, x3, x4, x5, x6] (.ref a :: st) g mi mr Q := tw_x_aload_n td_13_44 rfl
theorem td_13_45 : decode (tw_cd 13) 45 = .ok (.getfield 45, 3) := by decide +kernel
theorem tz_13_45 : tw_E sc d 13 45 [x0, x1, x2, x3, x4, x5, x6] (.ref a :: st) g mi mr Q = (tw_kd g a = 0 ∧ tw_E sc d 13 48 [x0, x1, x2, x3, x4, x5, x6] (va_rf (mr a 3) :: st) g mi mr Q) := tw_x_getr td_13_45 to_13 tf_0_45 (trf_0_3)
theorem td_13_48 : decode (tw_cd 13) 48 = .ok (.invokevirtual 142, 3) := by decide +kernel
theorem tz_13_48 : tw_E sc (d + 1) 13 48 [x0, x1, x2, x3, x4, x5, x6] ([.ref a]) g mi mr Q = (tw_kd g a = 6 ∧ tw_E sc d 100 0 [some (.ref a)] [] g mi mr (tw_K sc (d + 1) 13 51 [x0, x1, x2, x3, x4, x5, x6] [] Q)) := tw_x_cv (as := []) (r := []) td_13_48 to_13 tc_0_142 to_100 rfl rfl rfl rfl
theorem td_13_51 : decode (tw_cd 13) 51 = .ok (.iload 4, 2) := by decide +kernel
theorem tz_13_51 : tw_E sc d 13 51 [x0, x1, x2, x3, some (.int v), x5, x6] st g mi mr Q = tw_E sc d 13 53 [x0, x1, x2, x3, some (.int v), x5, x6] (.int v :: st) g mi mr Q := tw_x_iload td_13_51 rfl
theorem td_13_53 : decode (tw_cd 13) 53 = .ok (.iload_n 3, 1) := by decide +kernel
theorem tz_13_53 : tw_E sc d 13 53 [x0, x1, x2, some (.int v), x4, x5, x6] st g mi mr Q = tw_E sc d 13 54 [x0, x1, x2, some (.int v), x4, x5, x6] (.int v :: st) g mi mr Q := tw_x_iload_n td_13_53 rfl
theorem td_13_54 : decode (tw_cd 13) 54 = .ok (.iadd, 1) := by decide +kernel
theorem tz_13_54 : tw_E sc d 13 54 [x0, x1, x2, x3, x4, x5, x6] (.int w :: .int v :: st) g mi mr Q = tw_E sc d 13 55 [x0, x1, x2, x3, x4, x5, x6] (.int (v + w) :: st) g mi mr Q := tw_x_iadd td_13_54
theorem td_13_55 : decode (tw_cd 13) 55 = .ok (.aload_n 0, 1) := by decide +kernel
theorem tz_13_55 : tw_E sc d 13 55 [some (.ref a), x1, x2, x3, x4, x5, x6] st g mi mr Q = tw_E sc d 13 56 [some (.ref a), x1, x2, x3, x4, x5, x6] (.ref a :: st) g mi mr Q := tw_x_aload_n td_13_55 rfl
theorem td_13_56 : decode (tw_cd 13) 56 = .ok (.getfield 38, 3) := by decide +kernel
theorem tz_13_56 : tw_E sc d 13 56 [x0, x1, x2, x3, x4, x5, x6] (.ref a :: st) g mi mr Q = (tw_kd g a = 0 ∧ tw_E sc d 13 59 [x0, x1, x2, x3, x4, x5, x6] (va_rf (mr a 2) :: st) g mi mr Q) := tw_x_getr td_13_56 to_13 tf_0_38 (trf_0_2)
theorem td_13_59 : decode (tw_cd 13) 59 = .ok (.invokevirtual 115, 3) := by decide +kernel
theorem tz_13_59 : tw_E sc (d + 1) 13 59 [x0, x1, x2, x3, x4, x5, x6] ([.ref a, s1]) g mi mr Q = (tw_kd g a = 5 ∧ tw_E sc d 90 0 [some (.ref a)] [] g mi mr (tw_K sc (d + 1) 13 62 [x0, x1, x2, x3, x4, x5, x6] [s1] Q)) := tw_x_cv (as := []) (r := [s1]) td_13_59 to_13 tc_0_115 to_90 rfl rfl rfl rfl
theorem td_13_62 : decode (tw_cd 13) 62 = .ok (.iconst 1, 1) := by decide +kernel
theorem tz_13_62 : tw_E sc d 13 62 [x0, x1, x2, x3, x4, x5, x6] st g mi mr Q = tw_E sc d 13 63 [x0, x1, x2, x3, x4, x5, x6] (.int 1 :: st) g mi mr Q := tw_x_iconst td_13_62 (by decide)
theorem td_13_63 : decode (tw_cd 13) 63 = .ok (.isub, 1) := by decide +kernel
theorem tz_13_63 : tw_E sc d 13 63 [x0, x1, x2, x3, x4, x5, x6] (.int w :: .int v :: st) g mi mr Q = tw_E sc d 13 64 [x0, x1, x2, x3, x4, x5, x6] (.int (v - w) :: st) g mi mr Q := tw_x_isub td_13_63
theorem td_13_64 : decode (tw_cd 13) 64 = .ok (.invokestatic 143, 3) := by decide +kernel
theorem tz_13_64 : tw_E sc (d + 1) 13 64 [x0, x1, x2, x3, x4, x5, x6] (.int w :: .int v :: []) g mi mr Q = tw_E sc (d + 1) 13 67 [x0, x1, x2, x3, x4, x5, x6] (.int (if w < v then w else v) :: []) g mi mr Q := tw_x_min td_13_64 to_13 tm_0_143 (by simp)
theorem td_13_67 : decode (tw_cd 13) 67 = .ok (.istore 5, 2) := by decide +kernel
theorem tz_13_67 : tw_E sc d 13 67 [x0, x1, x2, x3, x4, x5, x6] (.int v :: st) g mi mr Q = tw_E sc d 13 69 [x0, x1, x2, x3, x4, some (.int v), x6] st g mi mr Q := tw_x_istore td_13_67 tp_13 rfl
theorem td_13_69 : decode (tw_cd 13) 69 = .ok (.iload 4, 2) := by decide +kernel
theorem tz_13_69 : tw_E sc d 13 69 [x0, x1, x2, x3, some (.int v), x5, x6] st g mi mr Q = tw_E sc d 13 71 [x0, x1, x2, x3, some (.int v), x5, x6] (.int v :: st) g mi mr Q := tw_x_iload td_13_69 rfl
theorem td_13_71 : decode (tw_cd 13) 71 = .ok (.iload_n 2, 1) := by decide +kernel
theorem tz_13_71 : tw_E sc d 13 71 [x0, x1, some (.int v), x3, x4, x5, x6] st g mi mr Q = tw_E sc d 13 72 [x0, x1, some (.int v), x3, x4, x5, x6] (.int v :: st) g mi mr Q := tw_x_iload_n td_13_71 rfl
theorem td_13_72 : decode (tw_cd 13) 72 = .ok (.isub, 1) := by decide +kernel
theorem tz_13_72 : tw_E sc d 13 72 [x0, x1, x2, x3, x4, x5, x6] (.int w :: .int v :: st) g mi mr Q = tw_E sc d 13 73 [x0, x1, x2, x3, x4, x5, x6] (.int (v - w) :: st) g mi mr Q := tw_x_isub td_13_72
theorem td_13_73 : decode (tw_cd 13) 73 = .ok (.iconst 0, 1) := by decide +kernel
theorem tz_13_73 : tw_E sc d 13 73 [x0, x1, x2, x3, x4, x5, x6] st g mi mr Q = tw_E sc d 13 74 [x0, x1, x2, x3, x4, x5, x6] (.int 0 :: st) g mi mr Q := tw_x_iconst td_13_73 (by decide)
theorem td_13_74 : decode (tw_cd 13) 74 = .ok (.invokestatic 148, 3) := by decide +kernel
theorem tz_13_74 : tw_E sc (d + 1) 13 74 [x0, x1, x2, x3, x4, x5, x6] (.int w :: .int v :: []) g mi mr Q = tw_E sc (d + 1) 13 77 [x0, x1, x2, x3, x4, x5, x6] (.int (if v < w then w else v) :: []) g mi mr Q := tw_x_max td_13_74 to_13 tm_0_148 (by simp)
theorem td_13_77 : decode (tw_cd 13) 77 = .ok (.istore 6, 2) := by decide +kernel
theorem tz_13_77 : tw_E sc d 13 77 [x0, x1, x2, x3, x4, x5, x6] (.int v :: st) g mi mr Q = tw_E sc d 13 79 [x0, x1, x2, x3, x4, x5, some (.int v)] st g mi mr Q := tw_x_istore td_13_77 tp_13 rfl
theorem td_13_79 : decode (tw_cd 13) 79 = .ok (.iload 6, 2) := by decide +kernel
theorem tz_13_79 : tw_E sc d 13 79 [x0, x1, x2, x3, x4, x5, some (.int v)] st g mi mr Q = tw_E sc d 13 81 [x0, x1, x2, x3, x4, x5, some (.int v)] (.int v :: st) g mi mr Q := tw_x_iload td_13_79 rfl
theorem td_13_81 : decode (tw_cd 13) 81 = .ok (.iload 5, 2) := by decide +kernel
theorem tz_13_81 : tw_E sc d 13 81 [x0, x1, x2, x3, x4, some (.int v), x6] st g mi mr Q = tw_E sc d 13 83 [x0, x1, x2, x3, x4, some (.int v), x6] (.int v :: st) g mi mr Q := tw_x_iload td_13_81 rfl
theorem td_13_83 : decode (tw_cd 13) 83 = .ok (.if_icmp .gt 25, 3) := by decide +kernel
theorem tz_13_83 : tw_E sc d 13 83 [x0, x1, x2, x3, x4, x5, x6] (.int w :: .int v :: st) g mi mr Q = if w < v then tw_E sc d 13 108 [x0, x1, x2, x3, x4, x5, x6] st g mi mr Q else tw_E sc d 13 86 [x0, x1, x2, x3, x4, x5, x6] st g mi mr Q := tw_x_ic_gt td_13_83 (by decide)
theorem td_13_86 : decode (tw_cd 13) 86 = .ok (.aload_n 0, 1) := by decide +kernel
theorem tz_13_86 : tw_E sc d 13 86 [some (.ref a), x1, x2, x3, x4, x5, x6] st g mi mr Q = tw_E sc d 13 87 [some (.ref a), x1, x2, x3, x4, x5, x6] (.ref a :: st) g mi mr Q := tw_x_aload_n td_13_86 rfl
theorem td_13_87 : decode (tw_cd 13) 87 = .ok (.getfield 45, 3) := by decide +kernel
theorem tz_13_87 : tw_E sc d 13 87 [x0, x1, x2, x3, x4, x5, x6] (.ref a :: st) g mi mr Q = (tw_kd g a = 0 ∧ tw_E sc d 13 90 [x0, x1, x2, x3, x4, x5, x6] (va_rf (mr a 3) :: st) g mi mr Q) := tw_x_getr td_13_87 to_13 tf_0_45 (trf_0_3)
theorem td_13_90 : decode (tw_cd 13) 90 = .ok (.aload_n 0, 1) := by decide +kernel
theorem tz_13_90 : tw_E sc d 13 90 [some (.ref a), x1, x2, x3, x4, x5, x6] st g mi mr Q = tw_E sc d 13 91 [some (.ref a), x1, x2, x3, x4, x5, x6] (.ref a :: st) g mi mr Q := tw_x_aload_n td_13_90 rfl
theorem td_13_91 : decode (tw_cd 13) 91 = .ok (.getfield 38, 3) := by decide +kernel
theorem tz_13_91 : tw_E sc d 13 91 [x0, x1, x2, x3, x4, x5, x6] (.ref a :: st) g mi mr Q = (tw_kd g a = 0 ∧ tw_E sc d 13 94 [x0, x1, x2, x3, x4, x5, x6] (va_rf (mr a 2) :: st) g mi mr Q) := tw_x_getr td_13_91 to_13 tf_0_38 (trf_0_2)
theorem td_13_94 : decode (tw_cd 13) 94 = .ok (.iload 6, 2) := by decide +kernel
theorem tz_13_94 : tw_E sc d 13 94 [x0, x1, x2, x3, x4, x5, some (.int v)] st g mi mr Q = tw_E sc d 13 96 [x0, x1, x2, x3, x4, x5, some (.int v)] (.int v :: st) g mi mr Q := tw_x_iload td_13_94 rfl
theorem td_13_96 : decode (tw_cd 13) 96 = .ok (.invokevirtual 139, 3) := by decide +kernel
theorem tz_13_96 {a0 : Int32} : tw_E sc (d + 1) 13 96 [x0, x1, x2, x3, x4, x5, x6] ([.int a0, .ref a, s1]) g mi mr Q = (tw_kd g a = 5 ∧ tw_E sc d 95 0 [some (.ref a), some (.int a0)] [] g mi mr (tw_K sc (d + 1) 13 99 [x0, x1, x2, x3, x4, x5, x6] [s1] Q)) := tw_x_cv (as := [.int a0]) (r := [s1]) td_13_96 to_13 tc_0_139 to_95 rfl rfl rfl rfl
theorem td_13_99 : decode (tw_cd 13) 99 = .ok (.invokevirtual 151, 3) := by decide +kernel
theorem tz_13_99 {a0 : Int32} : tw_E sc (d + 1) 13 99 [x0, x1, x2, x3, x4, x5, x6] ([.int a0, .ref a]) g mi mr Q = (tw_kd g a = 6 ∧ tw_E sc d 102 0 [some (.ref a), some (.int a0)] [] g mi mr (tw_K sc (d + 1) 13 102 [x0, x1, x2, x3, x4, x5, x6] [] Q)) := tw_x_cv (as := [.int a0]) (r := []) td_13_99 to_13 tc_0_151 to_102 rfl rfl rfl rfl
theorem td_13_102 : decode (tw_cd 13) 102 = .ok (.iinc 6 1, 3) := by decide +kernel
theorem tz_13_102 : tw_E sc d 13 102 [x0, x1, x2, x3, x4, x5, some (.int v)] st g mi mr Q = tw_E sc d 13 105 [x0, x1, x2, x3, x4, x5, some (.int (v + 1))] st g mi mr Q := tw_x_iinc td_13_102 rfl (by first | rfl | (exact congrArg (v + ·) (by decide))) tp_13 rfl
theorem td_13_105 : decode (tw_cd 13) 105 = .ok (.goto (-26), 3) := by decide +kernel
theorem tz_13_105 : tw_E sc d 13 105 [x0, x1, x2, x3, x4, x5, x6] st g mi mr Q = tw_E sc d 13 79 [x0, x1, x2, x3, x4, x5, x6] st g mi mr Q := tw_x_goto td_13_105 (by decide)
theorem td_13_108 : decode (tw_cd 13) 108 = .ok (.aload_n 0, 1) := by decide +kernel
theorem tz_13_108 : tw_E sc d 13 108 [some (.ref a), x1, x2, x3, x4, x5, x6] st g mi mr Q = tw_E sc d 13 109 [some (.ref a), x1, x2, x3, x4, x5, x6] (.ref a :: st) g mi mr Q := tw_x_aload_n td_13_108 rfl
theorem td_13_109 : decode (tw_cd 13) 109 = .ok (.getfield 45, 3) := by decide +kernel
theorem tz_13_109 : tw_E sc d 13 109 [x0, x1, x2, x3, x4, x5, x6] (.ref a :: st) g mi mr Q = (tw_kd g a = 0 ∧ tw_E sc d 13 112 [x0, x1, x2, x3, x4, x5, x6] (va_rf (mr a 3) :: st) g mi mr Q) := tw_x_getr td_13_109 to_13 tf_0_45 (trf_0_3)
theorem td_13_112 : decode (tw_cd 13) 112 = .ok (.invokevirtual 155, 3) := by decide +kernel
theorem tz_13_112 : tw_E sc (d + 1) 13 112 [x0, x1, x2, x3, x4, x5, x6] ([.ref a]) g mi mr Q = (tw_kd g a = 6 ∧ tw_E sc d 101 0 [some (.ref a)] [] g mi mr (tw_K sc (d + 1) 13 115 [x0, x1, x2, x3, x4, x5, x6] [] Q)) := tw_x_cv (as := []) (r := []) td_13_112 to_13 tc_0_155 to_101 rfl rfl rfl rfl
theorem td_13_115 : decode (tw_cd 13) 115 = .ok (.ireturn, 1) := by decide +kernel
theorem tz_13_115 : tw_E sc d 13 115 [x0, x1, x2, x3, x4, x5, x6] ([.int v]) g mi mr Q = Q (some (.int v)) g mi mr := tw_x_iret td_13_115 tr_13
end tz_13
-- 14: Tl_caught
section tz_14
variable {sc : Nat × (Nat → Int32)} {d : Nat} {x0 x1 : Option Value} {st : List Value} {g : tw_G} {mi : tw_I} {mr : tw_Q} {Q : Option Value → tw_G → tw_I → tw_Q → Prop} {v w u : Int32} {a b : Nat} {j h : Int64} {s1 s2 s3 s4 : Value}
theorem td_14_0 : decode (tw_cd 14) 0 = .ok (.aload_n 0, 1) := by decide +kernel
theorem tz_14_0 : tw_E sc d 14 0 [some (.ref a), x1] st g mi mr Q = tw_E sc d 14 1 [some (.ref a), x1] (.ref a :: st) g mi mr Q := tw_x_aload_n td_14_0 rfl
theorem td_14_1 : decode (tw_cd 14) 1 = .ok (.getfield 45, 3) := by decide +kernel
theorem tz_14_1 : tw_E sc d 14 1 [x0, x1] (.ref a :: st) g mi mr Q = (tw_kd g a = 0 ∧ tw_E sc d 14 4 [x0, x1] (va_rf (mr a 3) :: st) g mi mr Q) := tw_x_getr td_14_1 to_14 tf_0_45 (trf_0_3)
theorem td_14_4 : decode (tw_cd 14) 4 = .ok (.iload_n 1, 1) := by decide +kernel
theorem tz_14_4 : tw_E sc d 14 4 [x0, some (.int v)] st g mi mr Q = tw_E sc d 14 5 [x0, some (.int v)] (.int v :: st) g mi mr Q := tw_x_iload_n td_14_4 rfl
theorem td_14_5 : decode (tw_cd 14) 5 = .ok (.invokevirtual 156, 3) := by decide +kernel
theorem tz_14_5 {a0 : Int32} : tw_E sc (d + 1) 14 5 [x0, x1] ([.int a0, .ref a]) g mi mr Q = (tw_kd g a = 6 ∧ tw_E sc d 103 0 [some (.ref a), some (.int a0)] [] g mi mr (tw_K sc (d + 1) 14 8 [x0, x1] [] Q)) := tw_x_cv (as := [.int a0]) (r := []) td_14_5 to_14 tc_0_156 to_103 rfl rfl rfl rfl
theorem td_14_8 : decode (tw_cd 14) 8 = .ok (.ireturn, 1) := by decide +kernel
theorem tz_14_8 : tw_E sc d 14 8 [x0, x1] ([.int v]) g mi mr Q = Q (some (.int v)) g mi mr := tw_x_iret td_14_8 tr_14
end tz_14
-- 15: Tl_runs
section tz_15
variable {sc : Nat × (Nat → Int32)} {d : Nat} {x0 : Option Value} {st : List Value} {g : tw_G} {mi : tw_I} {mr : tw_Q} {Q : Option Value → tw_G → tw_I → tw_Q → Prop} {v w u : Int32} {a b : Nat} {j h : Int64} {s1 s2 s3 s4 : Value}
theorem td_15_0 : decode (tw_cd 15) 0 = .ok (.aload_n 0, 1) := by decide +kernel
theorem tz_15_0 : tw_E sc d 15 0 [some (.ref a)] st g mi mr Q = tw_E sc d 15 1 [some (.ref a)] (.ref a :: st) g mi mr Q := tw_x_aload_n td_15_0 rfl
theorem td_15_1 : decode (tw_cd 15) 1 = .ok (.getfield 45, 3) := by decide +kernel
theorem tz_15_1 : tw_E sc d 15 1 [x0] (.ref a :: st) g mi mr Q = (tw_kd g a = 0 ∧ tw_E sc d 15 4 [x0] (va_rf (mr a 3) :: st) g mi mr Q) := tw_x_getr td_15_1 to_15 tf_0_45 (trf_0_3)
theorem td_15_4 : decode (tw_cd 15) 4 = .ok (.ldc 116, 2) := by decide +kernel
theorem tz_15_4 : tw_E sc d 15 4 [x0] st g mi mr Q = tw_E sc d 15 6 [x0] (.int 65535 :: st) g mi mr Q := tw_x_ldc td_15_4 to_15 tl_0_116
theorem td_15_6 : decode (tw_cd 15) 6 = .ok (.invokevirtual 157, 3) := by decide +kernel
theorem tz_15_6 {a0 : Int32} : tw_E sc (d + 1) 15 6 [x0] ([.int a0, .ref a]) g mi mr Q = (tw_kd g a = 6 ∧ tw_E sc d 104 0 [some (.ref a), some (.int a0), none, none] [] g mi mr (tw_K sc (d + 1) 15 9 [x0] [] Q)) := tw_x_cv (as := [.int a0]) (r := []) td_15_6 to_15 tc_0_157 to_104 rfl rfl rfl rfl
theorem td_15_9 : decode (tw_cd 15) 9 = .ok (.ireturn, 1) := by decide +kernel
theorem tz_15_9 : tw_E sc d 15 9 [x0] ([.int v]) g mi mr Q = Q (some (.int v)) g mi mr := tw_x_iret td_15_9 tr_15
end tz_15
-- 16: Tl_run
section tz_16
variable {sc : Nat × (Nat → Int32)} {d : Nat} {x0 x1 x2 x3 : Option Value} {st : List Value} {g : tw_G} {mi : tw_I} {mr : tw_Q} {Q : Option Value → tw_G → tw_I → tw_Q → Prop} {v w u : Int32} {a b : Nat} {j h : Int64} {s1 s2 s3 s4 : Value}
theorem td_16_0 : decode (tw_cd 16) 0 = .ok (.aload_n 0, 1) := by decide +kernel
theorem tz_16_0 : tw_E sc d 16 0 [some (.ref a), x1, x2, x3] st g mi mr Q = tw_E sc d 16 1 [some (.ref a), x1, x2, x3] (.ref a :: st) g mi mr Q := tw_x_aload_n td_16_0 rfl
theorem td_16_1 : decode (tw_cd 16) 1 = .ok (.getfield 45, 3) := by decide +kernel
theorem tz_16_1 : tw_E sc d 16 1 [x0, x1, x2, x3] (.ref a :: st) g mi mr Q = (tw_kd g a = 0 ∧ tw_E sc d 16 4 [x0, x1, x2, x3] (va_rf (mr a 3) :: st) g mi mr Q) := tw_x_getr td_16_1 to_16 tf_0_45 (trf_0_3)
theorem td_16_4 : decode (tw_cd 16) 4 = .ok (.iload_n 1, 1) := by decide +kernel
theorem tz_16_4 : tw_E sc d 16 4 [x0, some (.int v), x2, x3] st g mi mr Q = tw_E sc d 16 5 [x0, some (.int v), x2, x3] (.int v :: st) g mi mr Q := tw_x_iload_n td_16_4 rfl
theorem td_16_5 : decode (tw_cd 16) 5 = .ok (.invokevirtual 160, 3) := by decide +kernel
theorem tz_16_5 {a0 : Int32} : tw_E sc (d + 1) 16 5 [x0, x1, x2, x3] ([.int a0, .ref a]) g mi mr Q = (tw_kd g a = 6 ∧ tw_E sc d 105 0 [some (.ref a), some (.int a0), none, none] [] g mi mr (tw_K sc (d + 1) 16 8 [x0, x1, x2, x3] [] Q)) := tw_x_cv (as := [.int a0]) (r := []) td_16_5 to_16 tc_0_160 to_105 rfl rfl rfl rfl
theorem td_16_8 : decode (tw_cd 16) 8 = .ok (.istore_n 3, 1) := by decide +kernel
theorem tz_16_8 : tw_E sc d 16 8 [x0, x1, x2, x3] (.int v :: st) g mi mr Q = tw_E sc d 16 9 [x0, x1, x2, some (.int v)] st g mi mr Q := tw_x_istore_n td_16_8 tp_16 rfl
theorem td_16_9 : decode (tw_cd 16) 9 = .ok (.iload_n 3, 1) := by decide +kernel
theorem tz_16_9 : tw_E sc d 16 9 [x0, x1, x2, some (.int v)] st g mi mr Q = tw_E sc d 16 10 [x0, x1, x2, some (.int v)] (.int v :: st) g mi mr Q := tw_x_iload_n td_16_9 rfl
theorem td_16_10 : decode (tw_cd 16) 10 = .ok (.bipush (-9), 2) := by decide +kernel
theorem tz_16_10 : tw_E sc d 16 10 [x0, x1, x2, x3] st g mi mr Q = tw_E sc d 16 12 [x0, x1, x2, x3] (.int (-9) :: st) g mi mr Q := tw_x_bipush td_16_10 (by decide)
theorem td_16_12 : decode (tw_cd 16) 12 = .ok (.if_icmp .ne 5, 3) := by decide +kernel
theorem tz_16_12 : tw_E sc d 16 12 [x0, x1, x2, x3] (.int w :: .int v :: st) g mi mr Q = if ¬ v = w then tw_E sc d 16 17 [x0, x1, x2, x3] st g mi mr Q else tw_E sc d 16 15 [x0, x1, x2, x3] st g mi mr Q := tw_x_ic_ne td_16_12 (by decide)
theorem td_16_15 : decode (tw_cd 16) 15 = .ok (.iconst (-1), 1) := by decide +kernel
theorem tz_16_15 : tw_E sc d 16 15 [x0, x1, x2, x3] st g mi mr Q = tw_E sc d 16 16 [x0, x1, x2, x3] (.int (-1) :: st) g mi mr Q := tw_x_iconst td_16_15 (by decide)
theorem td_16_16 : decode (tw_cd 16) 16 = .ok (.ireturn, 1) := by decide +kernel
theorem tz_16_16 : tw_E sc d 16 16 [x0, x1, x2, x3] ([.int v]) g mi mr Q = Q (some (.int v)) g mi mr := tw_x_iret td_16_16 tr_16
theorem td_16_17 : decode (tw_cd 16) 17 = .ok (.iload_n 2, 1) := by decide +kernel
theorem tz_16_17 : tw_E sc d 16 17 [x0, x1, some (.int v), x3] st g mi mr Q = tw_E sc d 16 18 [x0, x1, some (.int v), x3] (.int v :: st) g mi mr Q := tw_x_iload_n td_16_17 rfl
theorem td_16_18 : decode (tw_cd 16) 18 = .ok (.ifCond .lt 8, 3) := by decide +kernel
theorem tz_16_18 : tw_E sc d 16 18 [x0, x1, x2, x3] (.int v :: st) g mi mr Q = if v < 0 then tw_E sc d 16 26 [x0, x1, x2, x3] st g mi mr Q else tw_E sc d 16 21 [x0, x1, x2, x3] st g mi mr Q := tw_x_if_lt td_16_18 (by decide)
theorem td_16_21 : decode (tw_cd 16) 21 = .ok (.iload_n 2, 1) := by decide +kernel
theorem tz_16_21 : tw_E sc d 16 21 [x0, x1, some (.int v), x3] st g mi mr Q = tw_E sc d 16 22 [x0, x1, some (.int v), x3] (.int v :: st) g mi mr Q := tw_x_iload_n td_16_21 rfl
theorem td_16_22 : decode (tw_cd 16) 22 = .ok (.iconst 1, 1) := by decide +kernel
theorem tz_16_22 : tw_E sc d 16 22 [x0, x1, x2, x3] st g mi mr Q = tw_E sc d 16 23 [x0, x1, x2, x3] (.int 1 :: st) g mi mr Q := tw_x_iconst td_16_22 (by decide)
theorem td_16_23 : decode (tw_cd 16) 23 = .ok (.if_icmp .le 6, 3) := by decide +kernel
theorem tz_16_23 : tw_E sc d 16 23 [x0, x1, x2, x3] (.int w :: .int v :: st) g mi mr Q = if v ≤ w then tw_E sc d 16 29 [x0, x1, x2, x3] st g mi mr Q else tw_E sc d 16 26 [x0, x1, x2, x3] st g mi mr Q := tw_x_ic_le td_16_23 (by decide)
theorem td_16_26 : decode (tw_cd 16) 26 = .ok (.bipush (-2), 2) := by decide +kernel
theorem tz_16_26 : tw_E sc d 16 26 [x0, x1, x2, x3] st g mi mr Q = tw_E sc d 16 28 [x0, x1, x2, x3] (.int (-2) :: st) g mi mr Q := tw_x_bipush td_16_26 (by decide)
theorem td_16_28 : decode (tw_cd 16) 28 = .ok (.ireturn, 1) := by decide +kernel
theorem tz_16_28 : tw_E sc d 16 28 [x0, x1, x2, x3] ([.int v]) g mi mr Q = Q (some (.int v)) g mi mr := tw_x_iret td_16_28 tr_16
theorem td_16_29 : decode (tw_cd 16) 29 = .ok (.iload_n 2, 1) := by decide +kernel
theorem tz_16_29 : tw_E sc d 16 29 [x0, x1, some (.int v), x3] st g mi mr Q = tw_E sc d 16 30 [x0, x1, some (.int v), x3] (.int v :: st) g mi mr Q := tw_x_iload_n td_16_29 rfl
theorem td_16_30 : decode (tw_cd 16) 30 = .ok (.ifCond .ne 14, 3) := by decide +kernel
theorem tz_16_30 : tw_E sc d 16 30 [x0, x1, x2, x3] (.int v :: st) g mi mr Q = if ¬ v = 0 then tw_E sc d 16 44 [x0, x1, x2, x3] st g mi mr Q else tw_E sc d 16 33 [x0, x1, x2, x3] st g mi mr Q := tw_x_if_ne td_16_30 (by decide)
theorem td_16_33 : decode (tw_cd 16) 33 = .ok (.aload_n 0, 1) := by decide +kernel
theorem tz_16_33 : tw_E sc d 16 33 [some (.ref a), x1, x2, x3] st g mi mr Q = tw_E sc d 16 34 [some (.ref a), x1, x2, x3] (.ref a :: st) g mi mr Q := tw_x_aload_n td_16_33 rfl
theorem td_16_34 : decode (tw_cd 16) 34 = .ok (.getfield 45, 3) := by decide +kernel
theorem tz_16_34 : tw_E sc d 16 34 [x0, x1, x2, x3] (.ref a :: st) g mi mr Q = (tw_kd g a = 0 ∧ tw_E sc d 16 37 [x0, x1, x2, x3] (va_rf (mr a 3) :: st) g mi mr Q) := tw_x_getr td_16_34 to_16 tf_0_45 (trf_0_3)
theorem td_16_37 : decode (tw_cd 16) 37 = .ok (.iload_n 3, 1) := by decide +kernel
theorem tz_16_37 : tw_E sc d 16 37 [x0, x1, x2, some (.int v)] st g mi mr Q = tw_E sc d 16 38 [x0, x1, x2, some (.int v)] (.int v :: st) g mi mr Q := tw_x_iload_n td_16_37 rfl
theorem td_16_38 : decode (tw_cd 16) 38 = .ok (.invokevirtual 156, 3) := by decide +kernel
theorem tz_16_38 {a0 : Int32} : tw_E sc (d + 1) 16 38 [x0, x1, x2, x3] ([.int a0, .ref a]) g mi mr Q = (tw_kd g a = 6 ∧ tw_E sc d 103 0 [some (.ref a), some (.int a0)] [] g mi mr (tw_K sc (d + 1) 16 41 [x0, x1, x2, x3] [] Q)) := tw_x_cv (as := [.int a0]) (r := []) td_16_38 to_16 tc_0_156 to_103 rfl rfl rfl rfl
theorem td_16_41 : decode (tw_cd 16) 41 = .ok (.goto 11, 3) := by decide +kernel
theorem tz_16_41 : tw_E sc d 16 41 [x0, x1, x2, x3] st g mi mr Q = tw_E sc d 16 52 [x0, x1, x2, x3] st g mi mr Q := tw_x_goto td_16_41 (by decide)
theorem td_16_44 : decode (tw_cd 16) 44 = .ok (.aload_n 0, 1) := by decide +kernel
theorem tz_16_44 : tw_E sc d 16 44 [some (.ref a), x1, x2, x3] st g mi mr Q = tw_E sc d 16 45 [some (.ref a), x1, x2, x3] (.ref a :: st) g mi mr Q := tw_x_aload_n td_16_44 rfl
theorem td_16_45 : decode (tw_cd 16) 45 = .ok (.getfield 45, 3) := by decide +kernel
theorem tz_16_45 : tw_E sc d 16 45 [x0, x1, x2, x3] (.ref a :: st) g mi mr Q = (tw_kd g a = 0 ∧ tw_E sc d 16 48 [x0, x1, x2, x3] (va_rf (mr a 3) :: st) g mi mr Q) := tw_x_getr td_16_45 to_16 tf_0_45 (trf_0_3)
theorem td_16_48 : decode (tw_cd 16) 48 = .ok (.iload_n 3, 1) := by decide +kernel
theorem tz_16_48 : tw_E sc d 16 48 [x0, x1, x2, some (.int v)] st g mi mr Q = tw_E sc d 16 49 [x0, x1, x2, some (.int v)] (.int v :: st) g mi mr Q := tw_x_iload_n td_16_48 rfl
theorem td_16_49 : decode (tw_cd 16) 49 = .ok (.invokevirtual 163, 3) := by decide +kernel
theorem tz_16_49 {a0 : Int32} : tw_E sc (d + 1) 16 49 [x0, x1, x2, x3] ([.int a0, .ref a]) g mi mr Q = (tw_kd g a = 6 ∧ tw_E sc d 106 0 [some (.ref a), some (.int a0), none] [] g mi mr (tw_K sc (d + 1) 16 52 [x0, x1, x2, x3] [] Q)) := tw_x_cv (as := [.int a0]) (r := []) td_16_49 to_16 tc_0_163 to_106 rfl rfl rfl rfl
theorem td_16_52 : decode (tw_cd 16) 52 = .ok (.ireturn, 1) := by decide +kernel
theorem tz_16_52 : tw_E sc d 16 52 [x0, x1, x2, x3] ([.int v]) g mi mr Q = Q (some (.int v)) g mi mr := tw_x_iret td_16_52 tr_16
end tz_16
-- 17: Tl_squeezed
section tz_17
variable {sc : Nat × (Nat → Int32)} {d : Nat} {x0 x1 : Option Value} {st : List Value} {g : tw_G} {mi : tw_I} {mr : tw_Q} {Q : Option Value → tw_G → tw_I → tw_Q → Prop} {v w u : Int32} {a b : Nat} {j h : Int64} {s1 s2 s3 s4 : Value}
theorem td_17_0 : decode (tw_cd 17) 0 = .ok (.iload_n 1, 1) := by decide +kernel
theorem tz_17_0 : tw_E sc d 17 0 [x0, some (.int v)] st g mi mr Q = tw_E sc d 17 1 [x0, some (.int v)] (.int v :: st) g mi mr Q := tw_x_iload_n td_17_0 rfl
theorem td_17_1 : decode (tw_cd 17) 1 = .ok (.ifCond .lt 9, 3) := by decide +kernel
theorem tz_17_1 : tw_E sc d 17 1 [x0, x1] (.int v :: st) g mi mr Q = if v < 0 then tw_E sc d 17 10 [x0, x1] st g mi mr Q else tw_E sc d 17 4 [x0, x1] st g mi mr Q := tw_x_if_lt td_17_1 (by decide)
theorem td_17_4 : decode (tw_cd 17) 4 = .ok (.iload_n 1, 1) := by decide +kernel
theorem tz_17_4 : tw_E sc d 17 4 [x0, some (.int v)] st g mi mr Q = tw_E sc d 17 5 [x0, some (.int v)] (.int v :: st) g mi mr Q := tw_x_iload_n td_17_4 rfl
theorem td_17_5 : decode (tw_cd 17) 5 = .ok (.ldc 116, 2) := by decide +kernel
theorem tz_17_5 : tw_E sc d 17 5 [x0, x1] st g mi mr Q = tw_E sc d 17 7 [x0, x1] (.int 65535 :: st) g mi mr Q := tw_x_ldc td_17_5 to_17 tl_0_116
theorem td_17_7 : decode (tw_cd 17) 7 = .ok (.if_icmp .le 6, 3) := by decide +kernel
theorem tz_17_7 : tw_E sc d 17 7 [x0, x1] (.int w :: .int v :: st) g mi mr Q = if v ≤ w then tw_E sc d 17 13 [x0, x1] st g mi mr Q else tw_E sc d 17 10 [x0, x1] st g mi mr Q := tw_x_ic_le td_17_7 (by decide)
theorem td_17_10 : decode (tw_cd 17) 10 = .ok (.bipush (-2), 2) := by decide +kernel
theorem tz_17_10 : tw_E sc d 17 10 [x0, x1] st g mi mr Q = tw_E sc d 17 12 [x0, x1] (.int (-2) :: st) g mi mr Q := tw_x_bipush td_17_10 (by decide)
theorem td_17_12 : decode (tw_cd 17) 12 = .ok (.ireturn, 1) := by decide +kernel
theorem tz_17_12 : tw_E sc d 17 12 [x0, x1] ([.int v]) g mi mr Q = Q (some (.int v)) g mi mr := tw_x_iret td_17_12 tr_17
theorem td_17_13 : decode (tw_cd 17) 13 = .ok (.aload_n 0, 1) := by decide +kernel
theorem tz_17_13 : tw_E sc d 17 13 [some (.ref a), x1] st g mi mr Q = tw_E sc d 17 14 [some (.ref a), x1] (.ref a :: st) g mi mr Q := tw_x_aload_n td_17_13 rfl
theorem td_17_14 : decode (tw_cd 17) 14 = .ok (.getfield 45, 3) := by decide +kernel
theorem tz_17_14 : tw_E sc d 17 14 [x0, x1] (.ref a :: st) g mi mr Q = (tw_kd g a = 0 ∧ tw_E sc d 17 17 [x0, x1] (va_rf (mr a 3) :: st) g mi mr Q) := tw_x_getr td_17_14 to_17 tf_0_45 (trf_0_3)
theorem td_17_17 : decode (tw_cd 17) 17 = .ok (.iload_n 1, 1) := by decide +kernel
theorem tz_17_17 : tw_E sc d 17 17 [x0, some (.int v)] st g mi mr Q = tw_E sc d 17 18 [x0, some (.int v)] (.int v :: st) g mi mr Q := tw_x_iload_n td_17_17 rfl
theorem td_17_18 : decode (tw_cd 17) 18 = .ok (.invokevirtual 157, 3) := by decide +kernel
theorem tz_17_18 {a0 : Int32} : tw_E sc (d + 1) 17 18 [x0, x1] ([.int a0, .ref a]) g mi mr Q = (tw_kd g a = 6 ∧ tw_E sc d 104 0 [some (.ref a), some (.int a0), none, none] [] g mi mr (tw_K sc (d + 1) 17 21 [x0, x1] [] Q)) := tw_x_cv (as := [.int a0]) (r := []) td_17_18 to_17 tc_0_157 to_104 rfl rfl rfl rfl
theorem td_17_21 : decode (tw_cd 17) 21 = .ok (.ireturn, 1) := by decide +kernel
theorem tz_17_21 : tw_E sc d 17 21 [x0, x1] ([.int v]) g mi mr Q = Q (some (.int v)) g mi mr := tw_x_iret td_17_21 tr_17
end tz_17
-- 18: Tl_frames
section tz_18
variable {sc : Nat × (Nat → Int32)} {d : Nat} {x0 x1 x2 : Option Value} {st : List Value} {g : tw_G} {mi : tw_I} {mr : tw_Q} {Q : Option Value → tw_G → tw_I → tw_Q → Prop} {v w u : Int32} {a b : Nat} {j h : Int64} {s1 s2 s3 s4 : Value}
theorem td_18_0 : decode (tw_cd 18) 0 = .ok (.iload_n 1, 1) := by decide +kernel
theorem tz_18_0 : tw_E sc d 18 0 [x0, some (.int v), x2] st g mi mr Q = tw_E sc d 18 1 [x0, some (.int v), x2] (.int v :: st) g mi mr Q := tw_x_iload_n td_18_0 rfl
theorem td_18_1 : decode (tw_cd 18) 1 = .ok (.invokestatic 166, 3) := by decide +kernel
theorem tz_18_1 {a0 : Int32} : tw_E sc (d + 1) 18 1 [x0, x1, x2] ([.int a0]) g mi mr Q = tw_E sc d 32 0 [some (.int a0)] [] g mi mr (tw_K sc (d + 1) 18 4 [x0, x1, x2] [] Q) := tw_x_cs (as := [.int a0]) (r := []) td_18_1 to_18 tmn_0_166 tc_0_166 rfl rfl rfl rfl rfl
theorem td_18_4 : decode (tw_cd 18) 4 = .ok (.ifCond .ne 5, 3) := by decide +kernel
theorem tz_18_4 : tw_E sc d 18 4 [x0, x1, x2] (.int v :: st) g mi mr Q = if ¬ v = 0 then tw_E sc d 18 9 [x0, x1, x2] st g mi mr Q else tw_E sc d 18 7 [x0, x1, x2] st g mi mr Q := tw_x_if_ne td_18_4 (by decide)
theorem td_18_7 : decode (tw_cd 18) 7 = .ok (.iconst (-1), 1) := by decide +kernel
theorem tz_18_7 : tw_E sc d 18 7 [x0, x1, x2] st g mi mr Q = tw_E sc d 18 8 [x0, x1, x2] (.int (-1) :: st) g mi mr Q := tw_x_iconst td_18_7 (by decide)
theorem td_18_8 : decode (tw_cd 18) 8 = .ok (.ireturn, 1) := by decide +kernel
theorem tz_18_8 : tw_E sc d 18 8 [x0, x1, x2] ([.int v]) g mi mr Q = Q (some (.int v)) g mi mr := tw_x_iret td_18_8 tr_18
theorem td_18_9 : decode (tw_cd 18) 9 = .ok (.iload_n 2, 1) := by decide +kernel
theorem tz_18_9 : tw_E sc d 18 9 [x0, x1, some (.int v)] st g mi mr Q = tw_E sc d 18 10 [x0, x1, some (.int v)] (.int v :: st) g mi mr Q := tw_x_iload_n td_18_9 rfl
theorem td_18_10 : decode (tw_cd 18) 10 = .ok (.invokestatic 169, 3) := by decide +kernel
theorem tz_18_10 {a0 : Int32} : tw_E sc (d + 1) 18 10 [x0, x1, x2] ([.int a0]) g mi mr Q = tw_E sc d 33 0 [some (.int a0)] [] g mi mr (tw_K sc (d + 1) 18 13 [x0, x1, x2] [] Q) := tw_x_cs (as := [.int a0]) (r := []) td_18_10 to_18 tmn_0_169 tc_0_169 rfl rfl rfl rfl rfl
theorem td_18_13 : decode (tw_cd 18) 13 = .ok (.ifCond .ne 6, 3) := by decide +kernel
theorem tz_18_13 : tw_E sc d 18 13 [x0, x1, x2] (.int v :: st) g mi mr Q = if ¬ v = 0 then tw_E sc d 18 19 [x0, x1, x2] st g mi mr Q else tw_E sc d 18 16 [x0, x1, x2] st g mi mr Q := tw_x_if_ne td_18_13 (by decide)
theorem td_18_16 : decode (tw_cd 18) 16 = .ok (.bipush (-2), 2) := by decide +kernel
theorem tz_18_16 : tw_E sc d 18 16 [x0, x1, x2] st g mi mr Q = tw_E sc d 18 18 [x0, x1, x2] (.int (-2) :: st) g mi mr Q := tw_x_bipush td_18_16 (by decide)
theorem td_18_18 : decode (tw_cd 18) 18 = .ok (.ireturn, 1) := by decide +kernel
theorem tz_18_18 : tw_E sc d 18 18 [x0, x1, x2] ([.int v]) g mi mr Q = Q (some (.int v)) g mi mr := tw_x_iret td_18_18 tr_18
theorem td_18_19 : decode (tw_cd 18) 19 = .ok (.aload_n 0, 1) := by decide +kernel
theorem tz_18_19 : tw_E sc d 18 19 [some (.ref a), x1, x2] st g mi mr Q = tw_E sc d 18 20 [some (.ref a), x1, x2] (.ref a :: st) g mi mr Q := tw_x_aload_n td_18_19 rfl
theorem td_18_20 : decode (tw_cd 18) 20 = .ok (.getfield 61, 3) := by decide +kernel
theorem tz_18_20 : tw_E sc d 18 20 [x0, x1, x2] (.ref a :: st) g mi mr Q = (tw_kd g a = 0 ∧ tw_E sc d 18 23 [x0, x1, x2] (va_rf (mr a 5) :: st) g mi mr Q) := tw_x_getr td_18_20 to_18 tf_0_61 (trf_0_5)
theorem td_18_23 : decode (tw_cd 18) 23 = .ok (.iload_n 1, 1) := by decide +kernel
theorem tz_18_23 : tw_E sc d 18 23 [x0, some (.int v), x2] st g mi mr Q = tw_E sc d 18 24 [x0, some (.int v), x2] (.int v :: st) g mi mr Q := tw_x_iload_n td_18_23 rfl
theorem td_18_24 : decode (tw_cd 18) 24 = .ok (.iload_n 2, 1) := by decide +kernel
theorem tz_18_24 : tw_E sc d 18 24 [x0, x1, some (.int v)] st g mi mr Q = tw_E sc d 18 25 [x0, x1, some (.int v)] (.int v :: st) g mi mr Q := tw_x_iload_n td_18_24 rfl
theorem td_18_25 : decode (tw_cd 18) 25 = .ok (.invokevirtual 172, 3) := by decide +kernel
theorem tz_18_25 {a0 : Int32} {a1 : Int32} : tw_E sc (d + 1) 18 25 [x0, x1, x2] ([.int a1, .int a0, .ref a]) g mi mr Q = (tw_kd g a = 8 ∧ tw_E sc d 117 0 [some (.ref a), some (.int a0), some (.int a1), none, none, none] [] g mi mr (tw_K sc (d + 1) 18 28 [x0, x1, x2] [] Q)) := tw_x_cv (as := [.int a0, .int a1]) (r := []) td_18_25 to_18 tc_0_172 to_117 rfl rfl rfl rfl
theorem td_18_28 : decode (tw_cd 18) 28 = .ok (.aload_n 0, 1) := by decide +kernel
theorem tz_18_28 : tw_E sc d 18 28 [some (.ref a), x1, x2] st g mi mr Q = tw_E sc d 18 29 [some (.ref a), x1, x2] (.ref a :: st) g mi mr Q := tw_x_aload_n td_18_28 rfl
theorem td_18_29 : decode (tw_cd 18) 29 = .ok (.getfield 52, 3) := by decide +kernel
theorem tz_18_29 : tw_E sc d 18 29 [x0, x1, x2] (.ref a :: st) g mi mr Q = (tw_kd g a = 0 ∧ tw_E sc d 18 32 [x0, x1, x2] (va_rf (mr a 4) :: st) g mi mr Q) := tw_x_getr td_18_29 to_18 tf_0_52 (trf_0_4)
theorem td_18_32 : decode (tw_cd 18) 32 = .ok (.invokevirtual 176, 3) := by decide +kernel
theorem tz_18_32 : tw_E sc (d + 1) 18 32 [x0, x1, x2] ([.ref a]) g mi mr Q = (tw_kd g a = 7 ∧ tw_E sc d 110 0 [some (.ref a)] [] g mi mr (tw_K sc (d + 1) 18 35 [x0, x1, x2] [] Q)) := tw_x_cv (as := []) (r := []) td_18_32 to_18 tc_0_176 to_110 rfl rfl rfl rfl
theorem td_18_35 : decode (tw_cd 18) 35 = .ok (.ireturn, 1) := by decide +kernel
theorem tz_18_35 : tw_E sc d 18 35 [x0, x1, x2] ([.int v]) g mi mr Q = Q (some (.int v)) g mi mr := tw_x_iret td_18_35 tr_18
end tz_18
-- 19: Tl_bytes
section tz_19
variable {sc : Nat × (Nat → Int32)} {d : Nat} {x0 x1 x2 : Option Value} {st : List Value} {g : tw_G} {mi : tw_I} {mr : tw_Q} {Q : Option Value → tw_G → tw_I → tw_Q → Prop} {v w u : Int32} {a b : Nat} {j h : Int64} {s1 s2 s3 s4 : Value}
theorem td_19_0 : decode (tw_cd 19) 0 = .ok (.iload_n 1, 1) := by decide +kernel
theorem tz_19_0 : tw_E sc d 19 0 [x0, some (.int v), x2] st g mi mr Q = tw_E sc d 19 1 [x0, some (.int v), x2] (.int v :: st) g mi mr Q := tw_x_iload_n td_19_0 rfl
theorem td_19_1 : decode (tw_cd 19) 1 = .ok (.invokestatic 166, 3) := by decide +kernel
theorem tz_19_1 {a0 : Int32} : tw_E sc (d + 1) 19 1 [x0, x1, x2] ([.int a0]) g mi mr Q = tw_E sc d 32 0 [some (.int a0)] [] g mi mr (tw_K sc (d + 1) 19 4 [x0, x1, x2] [] Q) := tw_x_cs (as := [.int a0]) (r := []) td_19_1 to_19 tmn_0_166 tc_0_166 rfl rfl rfl rfl rfl
theorem td_19_4 : decode (tw_cd 19) 4 = .ok (.ifCond .eq 10, 3) := by decide +kernel
theorem tz_19_4 : tw_E sc d 19 4 [x0, x1, x2] (.int v :: st) g mi mr Q = if v = 0 then tw_E sc d 19 14 [x0, x1, x2] st g mi mr Q else tw_E sc d 19 7 [x0, x1, x2] st g mi mr Q := tw_x_if_eq td_19_4 (by decide)
theorem td_19_7 : decode (tw_cd 19) 7 = .ok (.iload_n 2, 1) := by decide +kernel
theorem tz_19_7 : tw_E sc d 19 7 [x0, x1, some (.int v)] st g mi mr Q = tw_E sc d 19 8 [x0, x1, some (.int v)] (.int v :: st) g mi mr Q := tw_x_iload_n td_19_7 rfl
theorem td_19_8 : decode (tw_cd 19) 8 = .ok (.invokestatic 166, 3) := by decide +kernel
theorem tz_19_8 {a0 : Int32} : tw_E sc (d + 1) 19 8 [x0, x1, x2] ([.int a0]) g mi mr Q = tw_E sc d 32 0 [some (.int a0)] [] g mi mr (tw_K sc (d + 1) 19 11 [x0, x1, x2] [] Q) := tw_x_cs (as := [.int a0]) (r := []) td_19_8 to_19 tmn_0_166 tc_0_166 rfl rfl rfl rfl rfl
theorem td_19_11 : decode (tw_cd 19) 11 = .ok (.ifCond .ne 5, 3) := by decide +kernel
theorem tz_19_11 : tw_E sc d 19 11 [x0, x1, x2] (.int v :: st) g mi mr Q = if ¬ v = 0 then tw_E sc d 19 16 [x0, x1, x2] st g mi mr Q else tw_E sc d 19 14 [x0, x1, x2] st g mi mr Q := tw_x_if_ne td_19_11 (by decide)
theorem td_19_14 : decode (tw_cd 19) 14 = .ok (.iconst (-1), 1) := by decide +kernel
theorem tz_19_14 : tw_E sc d 19 14 [x0, x1, x2] st g mi mr Q = tw_E sc d 19 15 [x0, x1, x2] (.int (-1) :: st) g mi mr Q := tw_x_iconst td_19_14 (by decide)
theorem td_19_15 : decode (tw_cd 19) 15 = .ok (.ireturn, 1) := by decide +kernel
theorem tz_19_15 : tw_E sc d 19 15 [x0, x1, x2] ([.int v]) g mi mr Q = Q (some (.int v)) g mi mr := tw_x_iret td_19_15 tr_19
theorem td_19_16 : decode (tw_cd 19) 16 = .ok (.iload_n 1, 1) := by decide +kernel
theorem tz_19_16 : tw_E sc d 19 16 [x0, some (.int v), x2] st g mi mr Q = tw_E sc d 19 17 [x0, some (.int v), x2] (.int v :: st) g mi mr Q := tw_x_iload_n td_19_16 rfl
theorem td_19_17 : decode (tw_cd 19) 17 = .ok (.iload_n 2, 1) := by decide +kernel
theorem tz_19_17 : tw_E sc d 19 17 [x0, x1, some (.int v)] st g mi mr Q = tw_E sc d 19 18 [x0, x1, some (.int v)] (.int v :: st) g mi mr Q := tw_x_iload_n td_19_17 rfl
theorem td_19_18 : decode (tw_cd 19) 18 = .ok (.if_icmp .ne 6, 3) := by decide +kernel
theorem tz_19_18 : tw_E sc d 19 18 [x0, x1, x2] (.int w :: .int v :: st) g mi mr Q = if ¬ v = w then tw_E sc d 19 24 [x0, x1, x2] st g mi mr Q else tw_E sc d 19 21 [x0, x1, x2] st g mi mr Q := tw_x_ic_ne td_19_18 (by decide)
theorem td_19_21 : decode (tw_cd 19) 21 = .ok (.bipush (-2), 2) := by decide +kernel
theorem tz_19_21 : tw_E sc d 19 21 [x0, x1, x2] st g mi mr Q = tw_E sc d 19 23 [x0, x1, x2] (.int (-2) :: st) g mi mr Q := tw_x_bipush td_19_21 (by decide)
theorem td_19_23 : decode (tw_cd 19) 23 = .ok (.ireturn, 1) := by decide +kernel
theorem tz_19_23 : tw_E sc d 19 23 [x0, x1, x2] ([.int v]) g mi mr Q = Q (some (.int v)) g mi mr := tw_x_iret td_19_23 tr_19
theorem td_19_24 : decode (tw_cd 19) 24 = .ok (.aload_n 0, 1) := by decide +kernel
theorem tz_19_24 : tw_E sc d 19 24 [some (.ref a), x1, x2] st g mi mr Q = tw_E sc d 19 25 [some (.ref a), x1, x2] (.ref a :: st) g mi mr Q := tw_x_aload_n td_19_24 rfl
theorem td_19_25 : decode (tw_cd 19) 25 = .ok (.getfield 68, 3) := by decide +kernel
theorem tz_19_25 : tw_E sc d 19 25 [x0, x1, x2] (.ref a :: st) g mi mr Q = (tw_kd g a = 0 ∧ tw_E sc d 19 28 [x0, x1, x2] (va_rf (mr a 6) :: st) g mi mr Q) := tw_x_getr td_19_25 to_19 tf_0_68 (trf_0_6)
theorem td_19_28 : decode (tw_cd 19) 28 = .ok (.iload_n 1, 1) := by decide +kernel
theorem tz_19_28 : tw_E sc d 19 28 [x0, some (.int v), x2] st g mi mr Q = tw_E sc d 19 29 [x0, some (.int v), x2] (.int v :: st) g mi mr Q := tw_x_iload_n td_19_28 rfl
theorem td_19_29 : decode (tw_cd 19) 29 = .ok (.iload_n 2, 1) := by decide +kernel
theorem tz_19_29 : tw_E sc d 19 29 [x0, x1, some (.int v)] st g mi mr Q = tw_E sc d 19 30 [x0, x1, some (.int v)] (.int v :: st) g mi mr Q := tw_x_iload_n td_19_29 rfl
theorem td_19_30 : decode (tw_cd 19) 30 = .ok (.invokevirtual 177, 3) := by decide +kernel
theorem tz_19_30 {a0 : Int32} {a1 : Int32} : tw_E sc (d + 1) 19 30 [x0, x1, x2] ([.int a1, .int a0, .ref a]) g mi mr Q = (tw_kd g a = 9 ∧ tw_E sc d 122 0 [some (.ref a), some (.int a0), some (.int a1), none, none, none, none] [] g mi mr (tw_K sc (d + 1) 19 33 [x0, x1, x2] [] Q)) := tw_x_cv (as := [.int a0, .int a1]) (r := []) td_19_30 to_19 tc_0_177 to_122 rfl rfl rfl rfl
theorem td_19_33 : decode (tw_cd 19) 33 = .ok (.aload_n 0, 1) := by decide +kernel
theorem tz_19_33 : tw_E sc d 19 33 [some (.ref a), x1, x2] st g mi mr Q = tw_E sc d 19 34 [some (.ref a), x1, x2] (.ref a :: st) g mi mr Q := tw_x_aload_n td_19_33 rfl
theorem td_19_34 : decode (tw_cd 19) 34 = .ok (.getfield 52, 3) := by decide +kernel
theorem tz_19_34 : tw_E sc d 19 34 [x0, x1, x2] (.ref a :: st) g mi mr Q = (tw_kd g a = 0 ∧ tw_E sc d 19 37 [x0, x1, x2] (va_rf (mr a 4) :: st) g mi mr Q) := tw_x_getr td_19_34 to_19 tf_0_52 (trf_0_4)
theorem td_19_37 : decode (tw_cd 19) 37 = .ok (.invokevirtual 176, 3) := by decide +kernel
theorem tz_19_37 : tw_E sc (d + 1) 19 37 [x0, x1, x2] ([.ref a]) g mi mr Q = (tw_kd g a = 7 ∧ tw_E sc d 110 0 [some (.ref a)] [] g mi mr (tw_K sc (d + 1) 19 40 [x0, x1, x2] [] Q)) := tw_x_cv (as := []) (r := []) td_19_37 to_19 tc_0_176 to_110 rfl rfl rfl rfl
theorem td_19_40 : decode (tw_cd 19) 40 = .ok (.ireturn, 1) := by decide +kernel
theorem tz_19_40 : tw_E sc d 19 40 [x0, x1, x2] ([.int v]) g mi mr Q = Q (some (.int v)) g mi mr := tw_x_iret td_19_40 tr_19
end tz_19
-- 20: Tl_mark
section tz_20
variable {sc : Nat × (Nat → Int32)} {d : Nat} {x0 x1 x2 : Option Value} {st : List Value} {g : tw_G} {mi : tw_I} {mr : tw_Q} {Q : Option Value → tw_G → tw_I → tw_Q → Prop} {v w u : Int32} {a b : Nat} {j h : Int64} {s1 s2 s3 s4 : Value}
theorem td_20_0 : decode (tw_cd 20) 0 = .ok (.aload_n 0, 1) := by decide +kernel
theorem tz_20_0 : tw_E sc d 20 0 [some (.ref a), x1, x2] st g mi mr Q = tw_E sc d 20 1 [some (.ref a), x1, x2] (.ref a :: st) g mi mr Q := tw_x_aload_n td_20_0 rfl
theorem td_20_1 : decode (tw_cd 20) 1 = .ok (.getfield 52, 3) := by decide +kernel
theorem tz_20_1 : tw_E sc d 20 1 [x0, x1, x2] (.ref a :: st) g mi mr Q = (tw_kd g a = 0 ∧ tw_E sc d 20 4 [x0, x1, x2] (va_rf (mr a 4) :: st) g mi mr Q) := tw_x_getr td_20_1 to_20 tf_0_52 (trf_0_4)
theorem td_20_4 : decode (tw_cd 20) 4 = .ok (.iload_n 1, 1) := by decide +kernel
theorem tz_20_4 : tw_E sc d 20 4 [x0, some (.int v), x2] st g mi mr Q = tw_E sc d 20 5 [x0, some (.int v), x2] (.int v :: st) g mi mr Q := tw_x_iload_n td_20_4 rfl
theorem td_20_5 : decode (tw_cd 20) 5 = .ok (.iload_n 2, 1) := by decide +kernel
theorem tz_20_5 : tw_E sc d 20 5 [x0, x1, some (.int v)] st g mi mr Q = tw_E sc d 20 6 [x0, x1, some (.int v)] (.int v :: st) g mi mr Q := tw_x_iload_n td_20_5 rfl
theorem td_20_6 : decode (tw_cd 20) 6 = .ok (.invokevirtual 178, 3) := by decide +kernel
theorem tz_20_6 {a0 : Int32} {a1 : Int32} : tw_E sc (d + 1) 20 6 [x0, x1, x2] ([.int a1, .int a0, .ref a]) g mi mr Q = (tw_kd g a = 7 ∧ tw_E sc d 114 0 [some (.ref a), some (.int a0), some (.int a1)] [] g mi mr (tw_K sc (d + 1) 20 9 [x0, x1, x2] [] Q)) := tw_x_cv (as := [.int a0, .int a1]) (r := []) td_20_6 to_20 tc_0_178 to_114 rfl rfl rfl rfl
theorem td_20_9 : decode (tw_cd 20) 9 = .ok (.ireturn, 1) := by decide +kernel
theorem tz_20_9 : tw_E sc d 20 9 [x0, x1, x2] ([.int v]) g mi mr Q = Q (some (.int v)) g mi mr := tw_x_iret td_20_9 tr_20
end tz_20
-- 21: Tl_sendFrame
section tz_21
variable {sc : Nat × (Nat → Int32)} {d : Nat} {x0 x1 x2 x3 x4 : Option Value} {st : List Value} {g : tw_G} {mi : tw_I} {mr : tw_Q} {Q : Option Value → tw_G → tw_I → tw_Q → Prop} {v w u : Int32} {a b : Nat} {j h : Int64} {s1 s2 s3 s4 : Value}
theorem td_21_0 : decode (tw_cd 21) 0 = .ok (.iload_n 1, 1) := by decide +kernel
theorem tz_21_0 : tw_E sc d 21 0 [x0, some (.int v), x2, x3, x4] st g mi mr Q = tw_E sc d 21 1 [x0, some (.int v), x2, x3, x4] (.int v :: st) g mi mr Q := tw_x_iload_n td_21_0 rfl
theorem td_21_1 : decode (tw_cd 21) 1 = .ok (.invokestatic 166, 3) := by decide +kernel
theorem tz_21_1 {a0 : Int32} : tw_E sc (d + 1) 21 1 [x0, x1, x2, x3, x4] ([.int a0]) g mi mr Q = tw_E sc d 32 0 [some (.int a0)] [] g mi mr (tw_K sc (d + 1) 21 4 [x0, x1, x2, x3, x4] [] Q) := tw_x_cs (as := [.int a0]) (r := []) td_21_1 to_21 tmn_0_166 tc_0_166 rfl rfl rfl rfl rfl
theorem td_21_4 : decode (tw_cd 21) 4 = .ok (.ifCond .ne 5, 3) := by decide +kernel
theorem tz_21_4 : tw_E sc d 21 4 [x0, x1, x2, x3, x4] (.int v :: st) g mi mr Q = if ¬ v = 0 then tw_E sc d 21 9 [x0, x1, x2, x3, x4] st g mi mr Q else tw_E sc d 21 7 [x0, x1, x2, x3, x4] st g mi mr Q := tw_x_if_ne td_21_4 (by decide)
theorem td_21_7 : decode (tw_cd 21) 7 = .ok (.iconst (-1), 1) := by decide +kernel
theorem tz_21_7 : tw_E sc d 21 7 [x0, x1, x2, x3, x4] st g mi mr Q = tw_E sc d 21 8 [x0, x1, x2, x3, x4] (.int (-1) :: st) g mi mr Q := tw_x_iconst td_21_7 (by decide)
theorem td_21_8 : decode (tw_cd 21) 8 = .ok (.ireturn, 1) := by decide +kernel
theorem tz_21_8 : tw_E sc d 21 8 [x0, x1, x2, x3, x4] ([.int v]) g mi mr Q = Q (some (.int v)) g mi mr := tw_x_iret td_21_8 tr_21
theorem td_21_9 : decode (tw_cd 21) 9 = .ok (.iload_n 2, 1) := by decide +kernel
theorem tz_21_9 : tw_E sc d 21 9 [x0, x1, some (.int v), x3, x4] st g mi mr Q = tw_E sc d 21 10 [x0, x1, some (.int v), x3, x4] (.int v :: st) g mi mr Q := tw_x_iload_n td_21_9 rfl
theorem td_21_10 : decode (tw_cd 21) 10 = .ok (.invokestatic 169, 3) := by decide +kernel
theorem tz_21_10 {a0 : Int32} : tw_E sc (d + 1) 21 10 [x0, x1, x2, x3, x4] ([.int a0]) g mi mr Q = tw_E sc d 33 0 [some (.int a0)] [] g mi mr (tw_K sc (d + 1) 21 13 [x0, x1, x2, x3, x4] [] Q) := tw_x_cs (as := [.int a0]) (r := []) td_21_10 to_21 tmn_0_169 tc_0_169 rfl rfl rfl rfl rfl
theorem td_21_13 : decode (tw_cd 21) 13 = .ok (.ifCond .eq 10, 3) := by decide +kernel
theorem tz_21_13 : tw_E sc d 21 13 [x0, x1, x2, x3, x4] (.int v :: st) g mi mr Q = if v = 0 then tw_E sc d 21 23 [x0, x1, x2, x3, x4] st g mi mr Q else tw_E sc d 21 16 [x0, x1, x2, x3, x4] st g mi mr Q := tw_x_if_eq td_21_13 (by decide)
theorem td_21_16 : decode (tw_cd 21) 16 = .ok (.iload_n 3, 1) := by decide +kernel
theorem tz_21_16 : tw_E sc d 21 16 [x0, x1, x2, some (.int v), x4] st g mi mr Q = tw_E sc d 21 17 [x0, x1, x2, some (.int v), x4] (.int v :: st) g mi mr Q := tw_x_iload_n td_21_16 rfl
theorem td_21_17 : decode (tw_cd 21) 17 = .ok (.invokestatic 180, 3) := by decide +kernel
theorem tz_21_17 {a0 : Int32} : tw_E sc (d + 1) 21 17 [x0, x1, x2, x3, x4] ([.int a0]) g mi mr Q = tw_E sc d 34 0 [some (.int a0)] [] g mi mr (tw_K sc (d + 1) 21 20 [x0, x1, x2, x3, x4] [] Q) := tw_x_cs (as := [.int a0]) (r := []) td_21_17 to_21 tmn_0_180 tc_0_180 rfl rfl rfl rfl rfl
theorem td_21_20 : decode (tw_cd 21) 20 = .ok (.ifCond .ne 6, 3) := by decide +kernel
theorem tz_21_20 : tw_E sc d 21 20 [x0, x1, x2, x3, x4] (.int v :: st) g mi mr Q = if ¬ v = 0 then tw_E sc d 21 26 [x0, x1, x2, x3, x4] st g mi mr Q else tw_E sc d 21 23 [x0, x1, x2, x3, x4] st g mi mr Q := tw_x_if_ne td_21_20 (by decide)
theorem td_21_23 : decode (tw_cd 21) 23 = .ok (.bipush (-2), 2) := by decide +kernel
theorem tz_21_23 : tw_E sc d 21 23 [x0, x1, x2, x3, x4] st g mi mr Q = tw_E sc d 21 25 [x0, x1, x2, x3, x4] (.int (-2) :: st) g mi mr Q := tw_x_bipush td_21_23 (by decide)
theorem td_21_25 : decode (tw_cd 21) 25 = .ok (.ireturn, 1) := by decide +kernel
theorem tz_21_25 : tw_E sc d 21 25 [x0, x1, x2, x3, x4] ([.int v]) g mi mr Q = Q (some (.int v)) g mi mr := tw_x_iret td_21_25 tr_21
theorem td_21_26 : decode (tw_cd 21) 26 = .ok (.aload_n 0, 1) := by decide +kernel
theorem tz_21_26 : tw_E sc d 21 26 [some (.ref a), x1, x2, x3, x4] st g mi mr Q = tw_E sc d 21 27 [some (.ref a), x1, x2, x3, x4] (.ref a :: st) g mi mr Q := tw_x_aload_n td_21_26 rfl
theorem td_21_27 : decode (tw_cd 21) 27 = .ok (.bipush 10, 2) := by decide +kernel
theorem tz_21_27 : tw_E sc d 21 27 [x0, x1, x2, x3, x4] st g mi mr Q = tw_E sc d 21 29 [x0, x1, x2, x3, x4] (.int 10 :: st) g mi mr Q := tw_x_bipush td_21_27 (by decide)
theorem td_21_29 : decode (tw_cd 21) 29 = .ok (.iload_n 2, 1) := by decide +kernel
theorem tz_21_29 : tw_E sc d 21 29 [x0, x1, some (.int v), x3, x4] st g mi mr Q = tw_E sc d 21 30 [x0, x1, some (.int v), x3, x4] (.int v :: st) g mi mr Q := tw_x_iload_n td_21_29 rfl
theorem td_21_30 : decode (tw_cd 21) 30 = .ok (.imul, 1) := by decide +kernel
theorem tz_21_30 : tw_E sc d 21 30 [x0, x1, x2, x3, x4] (.int w :: .int v :: st) g mi mr Q = tw_E sc d 21 31 [x0, x1, x2, x3, x4] (.int (v * w) :: st) g mi mr Q := tw_x_imul td_21_30
theorem td_21_31 : decode (tw_cd 21) 31 = .ok (.invokevirtual 117, 3) := by decide +kernel
theorem tz_21_31 {a0 : Int32} : tw_E sc (d + 1) 21 31 [x0, x1, x2, x3, x4] ([.int a0, .ref a]) g mi mr Q = (tw_kd g a = 0 ∧ tw_E sc d 26 0 [some (.ref a), some (.int a0)] [] g mi mr (tw_K sc (d + 1) 21 34 [x0, x1, x2, x3, x4] [] Q)) := tw_x_cv (as := [.int a0]) (r := []) td_21_31 to_21 tc_0_117 to_26 rfl rfl rfl rfl
theorem td_21_34 : decode (tw_cd 21) 34 = .ok (.istore 4, 2) := by decide +kernel
theorem tz_21_34 : tw_E sc d 21 34 [x0, x1, x2, x3, x4] (.int v :: st) g mi mr Q = tw_E sc d 21 36 [x0, x1, x2, x3, some (.int v)] st g mi mr Q := tw_x_istore td_21_34 tp_21 rfl
theorem td_21_36 : decode (tw_cd 21) 36 = .ok (.iload 4, 2) := by decide +kernel
theorem tz_21_36 : tw_E sc d 21 36 [x0, x1, x2, x3, some (.int v)] st g mi mr Q = tw_E sc d 21 38 [x0, x1, x2, x3, some (.int v)] (.int v :: st) g mi mr Q := tw_x_iload td_21_36 rfl
theorem td_21_38 : decode (tw_cd 21) 38 = .ok (.ifCond .eq 8, 3) := by decide +kernel
theorem tz_21_38 : tw_E sc d 21 38 [x0, x1, x2, x3, x4] (.int v :: st) g mi mr Q = if v = 0 then tw_E sc d 21 46 [x0, x1, x2, x3, x4] st g mi mr Q else tw_E sc d 21 41 [x0, x1, x2, x3, x4] st g mi mr Q := tw_x_if_eq td_21_38 (by decide)
theorem td_21_41 : decode (tw_cd 21) 41 = .ok (.iload 4, 2) := by decide +kernel
theorem tz_21_41 : tw_E sc d 21 41 [x0, x1, x2, x3, some (.int v)] st g mi mr Q = tw_E sc d 21 43 [x0, x1, x2, x3, some (.int v)] (.int v :: st) g mi mr Q := tw_x_iload td_21_41 rfl
theorem td_21_43 : decode (tw_cd 21) 43 = .ok (.goto 12, 3) := by decide +kernel
theorem tz_21_43 : tw_E sc d 21 43 [x0, x1, x2, x3, x4] st g mi mr Q = tw_E sc d 21 55 [x0, x1, x2, x3, x4] st g mi mr Q := tw_x_goto td_21_43 (by decide)
theorem td_21_46 : decode (tw_cd 21) 46 = .ok (.aload_n 0, 1) := by decide +kernel
theorem tz_21_46 : tw_E sc d 21 46 [some (.ref a), x1, x2, x3, x4] st g mi mr Q = tw_E sc d 21 47 [some (.ref a), x1, x2, x3, x4] (.ref a :: st) g mi mr Q := tw_x_aload_n td_21_46 rfl
theorem td_21_47 : decode (tw_cd 21) 47 = .ok (.iconst 1, 1) := by decide +kernel
theorem tz_21_47 : tw_E sc d 21 47 [x0, x1, x2, x3, x4] st g mi mr Q = tw_E sc d 21 48 [x0, x1, x2, x3, x4] (.int 1 :: st) g mi mr Q := tw_x_iconst td_21_47 (by decide)
theorem td_21_48 : decode (tw_cd 21) 48 = .ok (.iload_n 1, 1) := by decide +kernel
theorem tz_21_48 : tw_E sc d 21 48 [x0, some (.int v), x2, x3, x4] st g mi mr Q = tw_E sc d 21 49 [x0, some (.int v), x2, x3, x4] (.int v :: st) g mi mr Q := tw_x_iload_n td_21_48 rfl
theorem td_21_49 : decode (tw_cd 21) 49 = .ok (.ishl, 1) := by decide +kernel
theorem tz_21_49 : tw_E sc d 21 49 [x0, x1, x2, x3, x4] (.int w :: .int v :: st) g mi mr Q = tw_E sc d 21 50 [x0, x1, x2, x3, x4] (.int (v <<< (w &&& 31)) :: st) g mi mr Q := tw_x_ishl td_21_49
theorem td_21_50 : decode (tw_cd 21) 50 = .ok (.iload_n 2, 1) := by decide +kernel
theorem tz_21_50 : tw_E sc d 21 50 [x0, x1, some (.int v), x3, x4] st g mi mr Q = tw_E sc d 21 51 [x0, x1, some (.int v), x3, x4] (.int v :: st) g mi mr Q := tw_x_iload_n td_21_50 rfl
theorem td_21_51 : decode (tw_cd 21) 51 = .ok (.iload_n 3, 1) := by decide +kernel
theorem tz_21_51 : tw_E sc d 21 51 [x0, x1, x2, some (.int v), x4] st g mi mr Q = tw_E sc d 21 52 [x0, x1, x2, some (.int v), x4] (.int v :: st) g mi mr Q := tw_x_iload_n td_21_51 rfl
theorem td_21_52 : decode (tw_cd 21) 52 = .ok (.invokevirtual 183, 3) := by decide +kernel
theorem tz_21_52 {a0 : Int32} {a1 : Int32} {a2 : Int32} : tw_E sc (d + 1) 21 52 [x0, x1, x2, x3, x4] ([.int a2, .int a1, .int a0, .ref a]) g mi mr Q = (tw_kd g a = 0 ∧ tw_E sc d 30 0 [some (.ref a), some (.int a0), some (.int a1), some (.int a2), none, none, none, none] [] g mi mr (tw_K sc (d + 1) 21 55 [x0, x1, x2, x3, x4] [] Q)) := tw_x_cv (as := [.int a0, .int a1, .int a2]) (r := []) td_21_52 to_21 tc_0_183 to_30 rfl rfl rfl rfl
theorem td_21_55 : decode (tw_cd 21) 55 = .ok (.ireturn, 1) := by decide +kernel
theorem tz_21_55 : tw_E sc d 21 55 [x0, x1, x2, x3, x4] ([.int v]) g mi mr Q = Q (some (.int v)) g mi mr := tw_x_iret td_21_55 tr_21
end tz_21
-- 22: Tl_sendByte
section tz_22
variable {sc : Nat × (Nat → Int32)} {d : Nat} {x0 x1 x2 x3 x4 x5 x6 x7 x8 x9 x10 x11 x12 : Option Value} {st : List Value} {g : tw_G} {mi : tw_I} {mr : tw_Q} {Q : Option Value → tw_G → tw_I → tw_Q → Prop} {v w u : Int32} {a b : Nat} {j h : Int64} {s1 s2 s3 s4 : Value}
theorem td_22_0 : decode (tw_cd 22) 0 = .ok (.iload_n 1, 1) := by decide +kernel
theorem tz_22_0 : tw_E sc d 22 0 [x0, some (.int v), x2, x3, x4, x5, x6, x7, x8, x9, x10, x11, x12] st g mi mr Q = tw_E sc d 22 1 [x0, some (.int v), x2, x3, x4, x5, x6, x7, x8, x9, x10, x11, x12] (.int v :: st) g mi mr Q := tw_x_iload_n td_22_0 rfl
theorem td_22_1 : decode (tw_cd 22) 1 = .ok (.invokestatic 166, 3) := by decide +kernel
theorem tz_22_1 {a0 : Int32} : tw_E sc (d + 1) 22 1 [x0, x1, x2, x3, x4, x5, x6, x7, x8, x9, x10, x11, x12] ([.int a0]) g mi mr Q = tw_E sc d 32 0 [some (.int a0)] [] g mi mr (tw_K sc (d + 1) 22 4 [x0, x1, x2, x3, x4, x5, x6, x7, x8, x9, x10, x11, x12] [] Q) := tw_x_cs (as := [.int a0]) (r := []) td_22_1 to_22 tmn_0_166 tc_0_166 rfl rfl rfl rfl rfl
theorem td_22_4 : decode (tw_cd 22) 4 = .ok (.ifCond .eq 10, 3) := by decide +kernel
theorem tz_22_4 : tw_E sc d 22 4 [x0, x1, x2, x3, x4, x5, x6, x7, x8, x9, x10, x11, x12] (.int v :: st) g mi mr Q = if v = 0 then tw_E sc d 22 14 [x0, x1, x2, x3, x4, x5, x6, x7, x8, x9, x10, x11, x12] st g mi mr Q else tw_E sc d 22 7 [x0, x1, x2, x3, x4, x5, x6, x7, x8, x9, x10, x11, x12] st g mi mr Q := tw_x_if_eq td_22_4 (by decide)
theorem td_22_7 : decode (tw_cd 22) 7 = .ok (.iload_n 2, 1) := by decide +kernel
theorem tz_22_7 : tw_E sc d 22 7 [x0, x1, some (.int v), x3, x4, x5, x6, x7, x8, x9, x10, x11, x12] st g mi mr Q = tw_E sc d 22 8 [x0, x1, some (.int v), x3, x4, x5, x6, x7, x8, x9, x10, x11, x12] (.int v :: st) g mi mr Q := tw_x_iload_n td_22_7 rfl
theorem td_22_8 : decode (tw_cd 22) 8 = .ok (.invokestatic 166, 3) := by decide +kernel
theorem tz_22_8 {a0 : Int32} : tw_E sc (d + 1) 22 8 [x0, x1, x2, x3, x4, x5, x6, x7, x8, x9, x10, x11, x12] ([.int a0]) g mi mr Q = tw_E sc d 32 0 [some (.int a0)] [] g mi mr (tw_K sc (d + 1) 22 11 [x0, x1, x2, x3, x4, x5, x6, x7, x8, x9, x10, x11, x12] [] Q) := tw_x_cs (as := [.int a0]) (r := []) td_22_8 to_22 tmn_0_166 tc_0_166 rfl rfl rfl rfl rfl
theorem td_22_11 : decode (tw_cd 22) 11 = .ok (.ifCond .ne 5, 3) := by decide +kernel
theorem tz_22_11 : tw_E sc d 22 11 [x0, x1, x2, x3, x4, x5, x6, x7, x8, x9, x10, x11, x12] (.int v :: st) g mi mr Q = if ¬ v = 0 then tw_E sc d 22 16 [x0, x1, x2, x3, x4, x5, x6, x7, x8, x9, x10, x11, x12] st g mi mr Q else tw_E sc d 22 14 [x0, x1, x2, x3, x4, x5, x6, x7, x8, x9, x10, x11, x12] st g mi mr Q := tw_x_if_ne td_22_11 (by decide)
theorem td_22_14 : decode (tw_cd 22) 14 = .ok (.iconst (-1), 1) := by decide +kernel
theorem tz_22_14 : tw_E sc d 22 14 [x0, x1, x2, x3, x4, x5, x6, x7, x8, x9, x10, x11, x12] st g mi mr Q = tw_E sc d 22 15 [x0, x1, x2, x3, x4, x5, x6, x7, x8, x9, x10, x11, x12] (.int (-1) :: st) g mi mr Q := tw_x_iconst td_22_14 (by decide)
theorem td_22_15 : decode (tw_cd 22) 15 = .ok (.ireturn, 1) := by decide +kernel
theorem tz_22_15 : tw_E sc d 22 15 [x0, x1, x2, x3, x4, x5, x6, x7, x8, x9, x10, x11, x12] ([.int v]) g mi mr Q = Q (some (.int v)) g mi mr := tw_x_iret td_22_15 tr_22
theorem td_22_16 : decode (tw_cd 22) 16 = .ok (.iload_n 1, 1) := by decide +kernel
theorem tz_22_16 : tw_E sc d 22 16 [x0, some (.int v), x2, x3, x4, x5, x6, x7, x8, x9, x10, x11, x12] st g mi mr Q = tw_E sc d 22 17 [x0, some (.int v), x2, x3, x4, x5, x6, x7, x8, x9, x10, x11, x12] (.int v :: st) g mi mr Q := tw_x_iload_n td_22_16 rfl
theorem td_22_17 : decode (tw_cd 22) 17 = .ok (.iload_n 2, 1) := by decide +kernel
theorem tz_22_17 : tw_E sc d 22 17 [x0, x1, some (.int v), x3, x4, x5, x6, x7, x8, x9, x10, x11, x12] st g mi mr Q = tw_E sc d 22 18 [x0, x1, some (.int v), x3, x4, x5, x6, x7, x8, x9, x10, x11, x12] (.int v :: st) g mi mr Q := tw_x_iload_n td_22_17 rfl
theorem td_22_18 : decode (tw_cd 22) 18 = .ok (.if_icmp .eq 10, 3) := by decide +kernel
theorem tz_22_18 : tw_E sc d 22 18 [x0, x1, x2, x3, x4, x5, x6, x7, x8, x9, x10, x11, x12] (.int w :: .int v :: st) g mi mr Q = if v = w then tw_E sc d 22 28 [x0, x1, x2, x3, x4, x5, x6, x7, x8, x9, x10, x11, x12] st g mi mr Q else tw_E sc d 22 21 [x0, x1, x2, x3, x4, x5, x6, x7, x8, x9, x10, x11, x12] st g mi mr Q := tw_x_ic_eq td_22_18 (by decide)
theorem td_22_21 : decode (tw_cd 22) 21 = .ok (.iload_n 3, 1) := by decide +kernel
theorem tz_22_21 : tw_E sc d 22 21 [x0, x1, x2, some (.int v), x4, x5, x6, x7, x8, x9, x10, x11, x12] st g mi mr Q = tw_E sc d 22 22 [x0, x1, x2, some (.int v), x4, x5, x6, x7, x8, x9, x10, x11, x12] (.int v :: st) g mi mr Q := tw_x_iload_n td_22_21 rfl
theorem td_22_22 : decode (tw_cd 22) 22 = .ok (.invokestatic 180, 3) := by decide +kernel
theorem tz_22_22 {a0 : Int32} : tw_E sc (d + 1) 22 22 [x0, x1, x2, x3, x4, x5, x6, x7, x8, x9, x10, x11, x12] ([.int a0]) g mi mr Q = tw_E sc d 34 0 [some (.int a0)] [] g mi mr (tw_K sc (d + 1) 22 25 [x0, x1, x2, x3, x4, x5, x6, x7, x8, x9, x10, x11, x12] [] Q) := tw_x_cs (as := [.int a0]) (r := []) td_22_22 to_22 tmn_0_180 tc_0_180 rfl rfl rfl rfl rfl
theorem td_22_25 : decode (tw_cd 22) 25 = .ok (.ifCond .ne 6, 3) := by decide +kernel
theorem tz_22_25 : tw_E sc d 22 25 [x0, x1, x2, x3, x4, x5, x6, x7, x8, x9, x10, x11, x12] (.int v :: st) g mi mr Q = if ¬ v = 0 then tw_E sc d 22 31 [x0, x1, x2, x3, x4, x5, x6, x7, x8, x9, x10, x11, x12] st g mi mr Q else tw_E sc d 22 28 [x0, x1, x2, x3, x4, x5, x6, x7, x8, x9, x10, x11, x12] st g mi mr Q := tw_x_if_ne td_22_25 (by decide)
theorem td_22_28 : decode (tw_cd 22) 28 = .ok (.bipush (-2), 2) := by decide +kernel
theorem tz_22_28 : tw_E sc d 22 28 [x0, x1, x2, x3, x4, x5, x6, x7, x8, x9, x10, x11, x12] st g mi mr Q = tw_E sc d 22 30 [x0, x1, x2, x3, x4, x5, x6, x7, x8, x9, x10, x11, x12] (.int (-2) :: st) g mi mr Q := tw_x_bipush td_22_28 (by decide)
theorem td_22_30 : decode (tw_cd 22) 30 = .ok (.ireturn, 1) := by decide +kernel
theorem tz_22_30 : tw_E sc d 22 30 [x0, x1, x2, x3, x4, x5, x6, x7, x8, x9, x10, x11, x12] ([.int v]) g mi mr Q = Q (some (.int v)) g mi mr := tw_x_iret td_22_30 tr_22
theorem td_22_31 : decode (tw_cd 22) 31 = .ok (.aload_n 0, 1) := by decide +kernel
theorem tz_22_31 : tw_E sc d 22 31 [some (.ref a), x1, x2, x3, x4, x5, x6, x7, x8, x9, x10, x11, x12] st g mi mr Q = tw_E sc d 22 32 [some (.ref a), x1, x2, x3, x4, x5, x6, x7, x8, x9, x10, x11, x12] (.ref a :: st) g mi mr Q := tw_x_aload_n td_22_31 rfl
theorem td_22_32 : decode (tw_cd 22) 32 = .ok (.bipush 24, 2) := by decide +kernel
theorem tz_22_32 : tw_E sc d 22 32 [x0, x1, x2, x3, x4, x5, x6, x7, x8, x9, x10, x11, x12] st g mi mr Q = tw_E sc d 22 34 [x0, x1, x2, x3, x4, x5, x6, x7, x8, x9, x10, x11, x12] (.int 24 :: st) g mi mr Q := tw_x_bipush td_22_32 (by decide)
theorem td_22_34 : decode (tw_cd 22) 34 = .ok (.iload 4, 2) := by decide +kernel
theorem tz_22_34 : tw_E sc d 22 34 [x0, x1, x2, x3, some (.int v), x5, x6, x7, x8, x9, x10, x11, x12] st g mi mr Q = tw_E sc d 22 36 [x0, x1, x2, x3, some (.int v), x5, x6, x7, x8, x9, x10, x11, x12] (.int v :: st) g mi mr Q := tw_x_iload td_22_34 rfl
theorem td_22_36 : decode (tw_cd 22) 36 = .ok (.ifCond .eq 7, 3) := by decide +kernel
theorem tz_22_36 : tw_E sc d 22 36 [x0, x1, x2, x3, x4, x5, x6, x7, x8, x9, x10, x11, x12] (.int v :: st) g mi mr Q = if v = 0 then tw_E sc d 22 43 [x0, x1, x2, x3, x4, x5, x6, x7, x8, x9, x10, x11, x12] st g mi mr Q else tw_E sc d 22 39 [x0, x1, x2, x3, x4, x5, x6, x7, x8, x9, x10, x11, x12] st g mi mr Q := tw_x_if_eq td_22_36 (by decide)
theorem td_22_39 : decode (tw_cd 22) 39 = .ok (.iconst 3, 1) := by decide +kernel
theorem tz_22_39 : tw_E sc d 22 39 [x0, x1, x2, x3, x4, x5, x6, x7, x8, x9, x10, x11, x12] st g mi mr Q = tw_E sc d 22 40 [x0, x1, x2, x3, x4, x5, x6, x7, x8, x9, x10, x11, x12] (.int 3 :: st) g mi mr Q := tw_x_iconst td_22_39 (by decide)
theorem td_22_40 : decode (tw_cd 22) 40 = .ok (.goto 4, 3) := by decide +kernel
theorem tz_22_40 : tw_E sc d 22 40 [x0, x1, x2, x3, x4, x5, x6, x7, x8, x9, x10, x11, x12] st g mi mr Q = tw_E sc d 22 44 [x0, x1, x2, x3, x4, x5, x6, x7, x8, x9, x10, x11, x12] st g mi mr Q := tw_x_goto td_22_40 (by decide)
theorem td_22_43 : decode (tw_cd 22) 43 = .ok (.iconst 0, 1) := by decide +kernel
theorem tz_22_43 : tw_E sc d 22 43 [x0, x1, x2, x3, x4, x5, x6, x7, x8, x9, x10, x11, x12] st g mi mr Q = tw_E sc d 22 44 [x0, x1, x2, x3, x4, x5, x6, x7, x8, x9, x10, x11, x12] (.int 0 :: st) g mi mr Q := tw_x_iconst td_22_43 (by decide)
theorem td_22_44 : decode (tw_cd 22) 44 = .ok (.iadd, 1) := by decide +kernel
theorem tz_22_44 : tw_E sc d 22 44 [x0, x1, x2, x3, x4, x5, x6, x7, x8, x9, x10, x11, x12] (.int w :: .int v :: st) g mi mr Q = tw_E sc d 22 45 [x0, x1, x2, x3, x4, x5, x6, x7, x8, x9, x10, x11, x12] (.int (v + w) :: st) g mi mr Q := tw_x_iadd td_22_44
theorem td_22_45 : decode (tw_cd 22) 45 = .ok (.iload 5, 2) := by decide +kernel
theorem tz_22_45 : tw_E sc d 22 45 [x0, x1, x2, x3, x4, some (.int v), x6, x7, x8, x9, x10, x11, x12] st g mi mr Q = tw_E sc d 22 47 [x0, x1, x2, x3, x4, some (.int v), x6, x7, x8, x9, x10, x11, x12] (.int v :: st) g mi mr Q := tw_x_iload td_22_45 rfl
theorem td_22_47 : decode (tw_cd 22) 47 = .ok (.ifCond .eq 7, 3) := by decide +kernel
theorem tz_22_47 : tw_E sc d 22 47 [x0, x1, x2, x3, x4, x5, x6, x7, x8, x9, x10, x11, x12] (.int v :: st) g mi mr Q = if v = 0 then tw_E sc d 22 54 [x0, x1, x2, x3, x4, x5, x6, x7, x8, x9, x10, x11, x12] st g mi mr Q else tw_E sc d 22 50 [x0, x1, x2, x3, x4, x5, x6, x7, x8, x9, x10, x11, x12] st g mi mr Q := tw_x_if_eq td_22_47 (by decide)
theorem td_22_50 : decode (tw_cd 22) 50 = .ok (.iconst 3, 1) := by decide +kernel
theorem tz_22_50 : tw_E sc d 22 50 [x0, x1, x2, x3, x4, x5, x6, x7, x8, x9, x10, x11, x12] st g mi mr Q = tw_E sc d 22 51 [x0, x1, x2, x3, x4, x5, x6, x7, x8, x9, x10, x11, x12] (.int 3 :: st) g mi mr Q := tw_x_iconst td_22_50 (by decide)
theorem td_22_51 : decode (tw_cd 22) 51 = .ok (.goto 4, 3) := by decide +kernel
theorem tz_22_51 : tw_E sc d 22 51 [x0, x1, x2, x3, x4, x5, x6, x7, x8, x9, x10, x11, x12] st g mi mr Q = tw_E sc d 22 55 [x0, x1, x2, x3, x4, x5, x6, x7, x8, x9, x10, x11, x12] st g mi mr Q := tw_x_goto td_22_51 (by decide)
theorem td_22_54 : decode (tw_cd 22) 54 = .ok (.iconst 0, 1) := by decide +kernel
theorem tz_22_54 : tw_E sc d 22 54 [x0, x1, x2, x3, x4, x5, x6, x7, x8, x9, x10, x11, x12] st g mi mr Q = tw_E sc d 22 55 [x0, x1, x2, x3, x4, x5, x6, x7, x8, x9, x10, x11, x12] (.int 0 :: st) g mi mr Q := tw_x_iconst td_22_54 (by decide)
theorem td_22_55 : decode (tw_cd 22) 55 = .ok (.iadd, 1) := by decide +kernel
theorem tz_22_55 : tw_E sc d 22 55 [x0, x1, x2, x3, x4, x5, x6, x7, x8, x9, x10, x11, x12] (.int w :: .int v :: st) g mi mr Q = tw_E sc d 22 56 [x0, x1, x2, x3, x4, x5, x6, x7, x8, x9, x10, x11, x12] (.int (v + w) :: st) g mi mr Q := tw_x_iadd td_22_55
theorem td_22_56 : decode (tw_cd 22) 56 = .ok (.invokevirtual 117, 3) := by decide +kernel
theorem tz_22_56 {a0 : Int32} : tw_E sc (d + 1) 22 56 [x0, x1, x2, x3, x4, x5, x6, x7, x8, x9, x10, x11, x12] ([.int a0, .ref a]) g mi mr Q = (tw_kd g a = 0 ∧ tw_E sc d 26 0 [some (.ref a), some (.int a0)] [] g mi mr (tw_K sc (d + 1) 22 59 [x0, x1, x2, x3, x4, x5, x6, x7, x8, x9, x10, x11, x12] [] Q)) := tw_x_cv (as := [.int a0]) (r := []) td_22_56 to_22 tc_0_117 to_26 rfl rfl rfl rfl
theorem td_22_59 : decode (tw_cd 22) 59 = .ok (.istore 6, 2) := by decide +kernel
theorem tz_22_59 : tw_E sc d 22 59 [x0, x1, x2, x3, x4, x5, x6, x7, x8, x9, x10, x11, x12] (.int v :: st) g mi mr Q = tw_E sc d 22 61 [x0, x1, x2, x3, x4, x5, some (.int v), x7, x8, x9, x10, x11, x12] st g mi mr Q := tw_x_istore td_22_59 tp_22 rfl
theorem td_22_61 : decode (tw_cd 22) 61 = .ok (.iload 6, 2) := by decide +kernel
theorem tz_22_61 : tw_E sc d 22 61 [x0, x1, x2, x3, x4, x5, some (.int v), x7, x8, x9, x10, x11, x12] st g mi mr Q = tw_E sc d 22 63 [x0, x1, x2, x3, x4, x5, some (.int v), x7, x8, x9, x10, x11, x12] (.int v :: st) g mi mr Q := tw_x_iload td_22_61 rfl
theorem td_22_63 : decode (tw_cd 22) 63 = .ok (.ifCond .eq 6, 3) := by decide +kernel
theorem tz_22_63 : tw_E sc d 22 63 [x0, x1, x2, x3, x4, x5, x6, x7, x8, x9, x10, x11, x12] (.int v :: st) g mi mr Q = if v = 0 then tw_E sc d 22 69 [x0, x1, x2, x3, x4, x5, x6, x7, x8, x9, x10, x11, x12] st g mi mr Q else tw_E sc d 22 66 [x0, x1, x2, x3, x4, x5, x6, x7, x8, x9, x10, x11, x12] st g mi mr Q := tw_x_if_eq td_22_63 (by decide)
theorem td_22_66 : decode (tw_cd 22) 66 = .ok (.iload 6, 2) := by decide +kernel
theorem tz_22_66 : tw_E sc d 22 66 [x0, x1, x2, x3, x4, x5, some (.int v), x7, x8, x9, x10, x11, x12] st g mi mr Q = tw_E sc d 22 68 [x0, x1, x2, x3, x4, x5, some (.int v), x7, x8, x9, x10, x11, x12] (.int v :: st) g mi mr Q := tw_x_iload td_22_66 rfl
theorem td_22_68 : decode (tw_cd 22) 68 = .ok (.ireturn, 1) := by decide +kernel
theorem tz_22_68 : tw_E sc d 22 68 [x0, x1, x2, x3, x4, x5, x6, x7, x8, x9, x10, x11, x12] ([.int v]) g mi mr Q = Q (some (.int v)) g mi mr := tw_x_iret td_22_68 tr_22
theorem td_22_69 : decode (tw_cd 22) 69 = .ok (.iconst 1, 1) := by decide +kernel
theorem tz_22_69 : tw_E sc d 22 69 [x0, x1, x2, x3, x4, x5, x6, x7, x8, x9, x10, x11, x12] st g mi mr Q = tw_E sc d 22 70 [x0, x1, x2, x3, x4, x5, x6, x7, x8, x9, x10, x11, x12] (.int 1 :: st) g mi mr Q := tw_x_iconst td_22_69 (by decide)
theorem td_22_70 : decode (tw_cd 22) 70 = .ok (.iload_n 1, 1) := by decide +kernel
theorem tz_22_70 : tw_E sc d 22 70 [x0, some (.int v), x2, x3, x4, x5, x6, x7, x8, x9, x10, x11, x12] st g mi mr Q = tw_E sc d 22 71 [x0, some (.int v), x2, x3, x4, x5, x6, x7, x8, x9, x10, x11, x12] (.int v :: st) g mi mr Q := tw_x_iload_n td_22_70 rfl
theorem td_22_71 : decode (tw_cd 22) 71 = .ok (.ishl, 1) := by decide +kernel
theorem tz_22_71 : tw_E sc d 22 71 [x0, x1, x2, x3, x4, x5, x6, x7, x8, x9, x10, x11, x12] (.int w :: .int v :: st) g mi mr Q = tw_E sc d 22 72 [x0, x1, x2, x3, x4, x5, x6, x7, x8, x9, x10, x11, x12] (.int (v <<< (w &&& 31)) :: st) g mi mr Q := tw_x_ishl td_22_71
theorem td_22_72 : decode (tw_cd 22) 72 = .ok (.istore 7, 2) := by decide +kernel
theorem tz_22_72 : tw_E sc d 22 72 [x0, x1, x2, x3, x4, x5, x6, x7, x8, x9, x10, x11, x12] (.int v :: st) g mi mr Q = tw_E sc d 22 74 [x0, x1, x2, x3, x4, x5, x6, some (.int v), x8, x9, x10, x11, x12] st g mi mr Q := tw_x_istore td_22_72 tp_22 rfl
theorem td_22_74 : decode (tw_cd 22) 74 = .ok (.iconst 1, 1) := by decide +kernel
theorem tz_22_74 : tw_E sc d 22 74 [x0, x1, x2, x3, x4, x5, x6, x7, x8, x9, x10, x11, x12] st g mi mr Q = tw_E sc d 22 75 [x0, x1, x2, x3, x4, x5, x6, x7, x8, x9, x10, x11, x12] (.int 1 :: st) g mi mr Q := tw_x_iconst td_22_74 (by decide)
theorem td_22_75 : decode (tw_cd 22) 75 = .ok (.iload_n 2, 1) := by decide +kernel
theorem tz_22_75 : tw_E sc d 22 75 [x0, x1, some (.int v), x3, x4, x5, x6, x7, x8, x9, x10, x11, x12] st g mi mr Q = tw_E sc d 22 76 [x0, x1, some (.int v), x3, x4, x5, x6, x7, x8, x9, x10, x11, x12] (.int v :: st) g mi mr Q := tw_x_iload_n td_22_75 rfl
theorem td_22_76 : decode (tw_cd 22) 76 = .ok (.ishl, 1) := by decide +kernel
theorem tz_22_76 : tw_E sc d 22 76 [x0, x1, x2, x3, x4, x5, x6, x7, x8, x9, x10, x11, x12] (.int w :: .int v :: st) g mi mr Q = tw_E sc d 22 77 [x0, x1, x2, x3, x4, x5, x6, x7, x8, x9, x10, x11, x12] (.int (v <<< (w &&& 31)) :: st) g mi mr Q := tw_x_ishl td_22_76
theorem td_22_77 : decode (tw_cd 22) 77 = .ok (.istore 8, 2) := by decide +kernel
theorem tz_22_77 : tw_E sc d 22 77 [x0, x1, x2, x3, x4, x5, x6, x7, x8, x9, x10, x11, x12] (.int v :: st) g mi mr Q = tw_E sc d 22 79 [x0, x1, x2, x3, x4, x5, x6, x7, some (.int v), x9, x10, x11, x12] st g mi mr Q := tw_x_istore td_22_77 tp_22 rfl
theorem td_22_79 : decode (tw_cd 22) 79 = .ok (.aload_n 0, 1) := by decide +kernel
theorem tz_22_79 : tw_E sc d 22 79 [some (.ref a), x1, x2, x3, x4, x5, x6, x7, x8, x9, x10, x11, x12] st g mi mr Q = tw_E sc d 22 80 [some (.ref a), x1, x2, x3, x4, x5, x6, x7, x8, x9, x10, x11, x12] (.ref a :: st) g mi mr Q := tw_x_aload_n td_22_79 rfl
theorem td_22_80 : decode (tw_cd 22) 80 = .ok (.invokevirtual 187, 3) := by decide +kernel
theorem tz_22_80 : tw_E sc (d + 1) 22 80 [x0, x1, x2, x3, x4, x5, x6, x7, x8, x9, x10, x11, x12] ([.ref a]) g mi mr Q = (tw_kd g a = 0 ∧ tw_E sc d 27 0 [some (.ref a)] [] g mi mr (tw_K sc (d + 1) 22 83 [x0, x1, x2, x3, x4, x5, x6, x7, x8, x9, x10, x11, x12] [] Q)) := tw_x_cv (as := []) (r := []) td_22_80 to_22 tc_0_187 to_27 rfl rfl rfl rfl
theorem td_22_83 : decode (tw_cd 22) 83 = .ok (.iload 7, 2) := by decide +kernel
theorem tz_22_83 : tw_E sc d 22 83 [x0, x1, x2, x3, x4, x5, x6, some (.int v), x8, x9, x10, x11, x12] st g mi mr Q = tw_E sc d 22 85 [x0, x1, x2, x3, x4, x5, x6, some (.int v), x8, x9, x10, x11, x12] (.int v :: st) g mi mr Q := tw_x_iload td_22_83 rfl
theorem td_22_85 : decode (tw_cd 22) 85 = .ok (.iload 8, 2) := by decide +kernel
theorem tz_22_85 : tw_E sc d 22 85 [x0, x1, x2, x3, x4, x5, x6, x7, some (.int v), x9, x10, x11, x12] st g mi mr Q = tw_E sc d 22 87 [x0, x1, x2, x3, x4, x5, x6, x7, some (.int v), x9, x10, x11, x12] (.int v :: st) g mi mr Q := tw_x_iload td_22_85 rfl
theorem td_22_87 : decode (tw_cd 22) 87 = .ok (.ior, 1) := by decide +kernel
theorem tz_22_87 : tw_E sc d 22 87 [x0, x1, x2, x3, x4, x5, x6, x7, x8, x9, x10, x11, x12] (.int w :: .int v :: st) g mi mr Q = tw_E sc d 22 88 [x0, x1, x2, x3, x4, x5, x6, x7, x8, x9, x10, x11, x12] (.int (v ||| w) :: st) g mi mr Q := tw_x_ior td_22_87
theorem td_22_88 : decode (tw_cd 22) 88 = .ok (.iconst (-1), 1) := by decide +kernel
theorem tz_22_88 : tw_E sc d 22 88 [x0, x1, x2, x3, x4, x5, x6, x7, x8, x9, x10, x11, x12] st g mi mr Q = tw_E sc d 22 89 [x0, x1, x2, x3, x4, x5, x6, x7, x8, x9, x10, x11, x12] (.int (-1) :: st) g mi mr Q := tw_x_iconst td_22_88 (by decide)
theorem td_22_89 : decode (tw_cd 22) 89 = .ok (.ixor, 1) := by decide +kernel
theorem tz_22_89 : tw_E sc d 22 89 [x0, x1, x2, x3, x4, x5, x6, x7, x8, x9, x10, x11, x12] (.int w :: .int v :: st) g mi mr Q = tw_E sc d 22 90 [x0, x1, x2, x3, x4, x5, x6, x7, x8, x9, x10, x11, x12] (.int (v ^^^ w) :: st) g mi mr Q := tw_x_ixor td_22_89
theorem td_22_90 : decode (tw_cd 22) 90 = .ok (.iand, 1) := by decide +kernel
theorem tz_22_90 : tw_E sc d 22 90 [x0, x1, x2, x3, x4, x5, x6, x7, x8, x9, x10, x11, x12] (.int w :: .int v :: st) g mi mr Q = tw_E sc d 22 91 [x0, x1, x2, x3, x4, x5, x6, x7, x8, x9, x10, x11, x12] (.int (v &&& w) :: st) g mi mr Q := tw_x_iand td_22_90
theorem td_22_91 : decode (tw_cd 22) 91 = .ok (.istore 9, 2) := by decide +kernel
theorem tz_22_91 : tw_E sc d 22 91 [x0, x1, x2, x3, x4, x5, x6, x7, x8, x9, x10, x11, x12] (.int v :: st) g mi mr Q = tw_E sc d 22 93 [x0, x1, x2, x3, x4, x5, x6, x7, x8, some (.int v), x10, x11, x12] st g mi mr Q := tw_x_istore td_22_91 tp_22 rfl
theorem td_22_93 : decode (tw_cd 22) 93 = .ok (.iload 4, 2) := by decide +kernel
theorem tz_22_93 : tw_E sc d 22 93 [x0, x1, x2, x3, some (.int v), x5, x6, x7, x8, x9, x10, x11, x12] st g mi mr Q = tw_E sc d 22 95 [x0, x1, x2, x3, some (.int v), x5, x6, x7, x8, x9, x10, x11, x12] (.int v :: st) g mi mr Q := tw_x_iload td_22_93 rfl
theorem td_22_95 : decode (tw_cd 22) 95 = .ok (.ifCond .eq 25, 3) := by decide +kernel
theorem tz_22_95 : tw_E sc d 22 95 [x0, x1, x2, x3, x4, x5, x6, x7, x8, x9, x10, x11, x12] (.int v :: st) g mi mr Q = if v = 0 then tw_E sc d 22 120 [x0, x1, x2, x3, x4, x5, x6, x7, x8, x9, x10, x11, x12] st g mi mr Q else tw_E sc d 22 98 [x0, x1, x2, x3, x4, x5, x6, x7, x8, x9, x10, x11, x12] st g mi mr Q := tw_x_if_eq td_22_95 (by decide)
theorem td_22_98 : decode (tw_cd 22) 98 = .ok (.aload_n 0, 1) := by decide +kernel
theorem tz_22_98 : tw_E sc d 22 98 [some (.ref a), x1, x2, x3, x4, x5, x6, x7, x8, x9, x10, x11, x12] st g mi mr Q = tw_E sc d 22 99 [some (.ref a), x1, x2, x3, x4, x5, x6, x7, x8, x9, x10, x11, x12] (.ref a :: st) g mi mr Q := tw_x_aload_n td_22_98 rfl
theorem td_22_99 : decode (tw_cd 22) 99 = .ok (.iload 9, 2) := by decide +kernel
theorem tz_22_99 : tw_E sc d 22 99 [x0, x1, x2, x3, x4, x5, x6, x7, x8, some (.int v), x10, x11, x12] st g mi mr Q = tw_E sc d 22 101 [x0, x1, x2, x3, x4, x5, x6, x7, x8, some (.int v), x10, x11, x12] (.int v :: st) g mi mr Q := tw_x_iload td_22_99 rfl
theorem td_22_101 : decode (tw_cd 22) 101 = .ok (.iload 7, 2) := by decide +kernel
theorem tz_22_101 : tw_E sc d 22 101 [x0, x1, x2, x3, x4, x5, x6, some (.int v), x8, x9, x10, x11, x12] st g mi mr Q = tw_E sc d 22 103 [x0, x1, x2, x3, x4, x5, x6, some (.int v), x8, x9, x10, x11, x12] (.int v :: st) g mi mr Q := tw_x_iload td_22_101 rfl
theorem td_22_103 : decode (tw_cd 22) 103 = .ok (.ior, 1) := by decide +kernel
theorem tz_22_103 : tw_E sc d 22 103 [x0, x1, x2, x3, x4, x5, x6, x7, x8, x9, x10, x11, x12] (.int w :: .int v :: st) g mi mr Q = tw_E sc d 22 104 [x0, x1, x2, x3, x4, x5, x6, x7, x8, x9, x10, x11, x12] (.int (v ||| w) :: st) g mi mr Q := tw_x_ior td_22_103
theorem td_22_104 : decode (tw_cd 22) 104 = .ok (.iload 8, 2) := by decide +kernel
theorem tz_22_104 : tw_E sc d 22 104 [x0, x1, x2, x3, x4, x5, x6, x7, some (.int v), x9, x10, x11, x12] st g mi mr Q = tw_E sc d 22 106 [x0, x1, x2, x3, x4, x5, x6, x7, some (.int v), x9, x10, x11, x12] (.int v :: st) g mi mr Q := tw_x_iload td_22_104 rfl
theorem td_22_106 : decode (tw_cd 22) 106 = .ok (.ior, 1) := by decide +kernel
theorem tz_22_106 : tw_E sc d 22 106 [x0, x1, x2, x3, x4, x5, x6, x7, x8, x9, x10, x11, x12] (.int w :: .int v :: st) g mi mr Q = tw_E sc d 22 107 [x0, x1, x2, x3, x4, x5, x6, x7, x8, x9, x10, x11, x12] (.int (v ||| w) :: st) g mi mr Q := tw_x_ior td_22_106
theorem td_22_107 : decode (tw_cd 22) 107 = .ok (.iload 9, 2) := by decide +kernel
theorem tz_22_107 : tw_E sc d 22 107 [x0, x1, x2, x3, x4, x5, x6, x7, x8, some (.int v), x10, x11, x12] st g mi mr Q = tw_E sc d 22 109 [x0, x1, x2, x3, x4, x5, x6, x7, x8, some (.int v), x10, x11, x12] (.int v :: st) g mi mr Q := tw_x_iload td_22_107 rfl
theorem td_22_109 : decode (tw_cd 22) 109 = .ok (.iload 7, 2) := by decide +kernel
theorem tz_22_109 : tw_E sc d 22 109 [x0, x1, x2, x3, x4, x5, x6, some (.int v), x8, x9, x10, x11, x12] st g mi mr Q = tw_E sc d 22 111 [x0, x1, x2, x3, x4, x5, x6, some (.int v), x8, x9, x10, x11, x12] (.int v :: st) g mi mr Q := tw_x_iload td_22_109 rfl
theorem td_22_111 : decode (tw_cd 22) 111 = .ok (.ior, 1) := by decide +kernel
theorem tz_22_111 : tw_E sc d 22 111 [x0, x1, x2, x3, x4, x5, x6, x7, x8, x9, x10, x11, x12] (.int w :: .int v :: st) g mi mr Q = tw_E sc d 22 112 [x0, x1, x2, x3, x4, x5, x6, x7, x8, x9, x10, x11, x12] (.int (v ||| w) :: st) g mi mr Q := tw_x_ior td_22_111
theorem td_22_112 : decode (tw_cd 22) 112 = .ok (.iload 9, 2) := by decide +kernel
theorem tz_22_112 : tw_E sc d 22 112 [x0, x1, x2, x3, x4, x5, x6, x7, x8, some (.int v), x10, x11, x12] st g mi mr Q = tw_E sc d 22 114 [x0, x1, x2, x3, x4, x5, x6, x7, x8, some (.int v), x10, x11, x12] (.int v :: st) g mi mr Q := tw_x_iload td_22_112 rfl
theorem td_22_114 : decode (tw_cd 22) 114 = .ok (.invokevirtual 190, 3) := by decide +kernel
theorem tz_22_114 {a0 : Int32} {a1 : Int32} {a2 : Int32} : tw_E sc (d + 1) 22 114 [x0, x1, x2, x3, x4, x5, x6, x7, x8, x9, x10, x11, x12] ([.int a2, .int a1, .int a0, .ref a]) g mi mr Q = (tw_kd g a = 0 ∧ tw_E sc d 29 0 [some (.ref a), some (.int a0), some (.int a1), some (.int a2)] [] g mi mr (tw_K sc (d + 1) 22 117 [x0, x1, x2, x3, x4, x5, x6, x7, x8, x9, x10, x11, x12] [] Q)) := tw_x_cv (as := [.int a0, .int a1, .int a2]) (r := []) td_22_114 to_22 tc_0_190 to_29 rfl rfl rfl rfl
theorem td_22_117 : decode (tw_cd 22) 117 = .ok (.goto 4, 3) := by decide +kernel
theorem tz_22_117 : tw_E sc d 22 117 [x0, x1, x2, x3, x4, x5, x6, x7, x8, x9, x10, x11, x12] st g mi mr Q = tw_E sc d 22 121 [x0, x1, x2, x3, x4, x5, x6, x7, x8, x9, x10, x11, x12] st g mi mr Q := tw_x_goto td_22_117 (by decide)
theorem td_22_120 : decode (tw_cd 22) 120 = .ok (.iconst 0, 1) := by decide +kernel
theorem tz_22_120 : tw_E sc d 22 120 [x0, x1, x2, x3, x4, x5, x6, x7, x8, x9, x10, x11, x12] st g mi mr Q = tw_E sc d 22 121 [x0, x1, x2, x3, x4, x5, x6, x7, x8, x9, x10, x11, x12] (.int 0 :: st) g mi mr Q := tw_x_iconst td_22_120 (by decide)
theorem td_22_121 : decode (tw_cd 22) 121 = .ok (.istore 10, 2) := by decide +kernel
theorem tz_22_121 : tw_E sc d 22 121 [x0, x1, x2, x3, x4, x5, x6, x7, x8, x9, x10, x11, x12] (.int v :: st) g mi mr Q = tw_E sc d 22 123 [x0, x1, x2, x3, x4, x5, x6, x7, x8, x9, some (.int v), x11, x12] st g mi mr Q := tw_x_istore td_22_121 tp_22 rfl
theorem td_22_123 : decode (tw_cd 22) 123 = .ok (.bipush 7, 2) := by decide +kernel
theorem tz_22_123 : tw_E sc d 22 123 [x0, x1, x2, x3, x4, x5, x6, x7, x8, x9, x10, x11, x12] st g mi mr Q = tw_E sc d 22 125 [x0, x1, x2, x3, x4, x5, x6, x7, x8, x9, x10, x11, x12] (.int 7 :: st) g mi mr Q := tw_x_bipush td_22_123 (by decide)
theorem td_22_125 : decode (tw_cd 22) 125 = .ok (.istore 11, 2) := by decide +kernel
theorem tz_22_125 : tw_E sc d 22 125 [x0, x1, x2, x3, x4, x5, x6, x7, x8, x9, x10, x11, x12] (.int v :: st) g mi mr Q = tw_E sc d 22 127 [x0, x1, x2, x3, x4, x5, x6, x7, x8, x9, x10, some (.int v), x12] st g mi mr Q := tw_x_istore td_22_125 tp_22 rfl
theorem td_22_127 : decode (tw_cd 22) 127 = .ok (.iload 11, 2) := by decide +kernel
theorem tz_22_127 : tw_E sc d 22 127 [x0, x1, x2, x3, x4, x5, x6, x7, x8, x9, x10, some (.int v), x12] st g mi mr Q = tw_E sc d 22 129 [x0, x1, x2, x3, x4, x5, x6, x7, x8, x9, x10, some (.int v), x12] (.int v :: st) g mi mr Q := tw_x_iload td_22_127 rfl
theorem td_22_129 : decode (tw_cd 22) 129 = .ok (.ifCond .lt 49, 3) := by decide +kernel
theorem tz_22_129 : tw_E sc d 22 129 [x0, x1, x2, x3, x4, x5, x6, x7, x8, x9, x10, x11, x12] (.int v :: st) g mi mr Q = if v < 0 then tw_E sc d 22 178 [x0, x1, x2, x3, x4, x5, x6, x7, x8, x9, x10, x11, x12] st g mi mr Q else tw_E sc d 22 132 [x0, x1, x2, x3, x4, x5, x6, x7, x8, x9, x10, x11, x12] st g mi mr Q := tw_x_if_lt td_22_129 (by decide)
theorem td_22_132 : decode (tw_cd 22) 132 = .ok (.iload_n 3, 1) := by decide +kernel
theorem tz_22_132 : tw_E sc d 22 132 [x0, x1, x2, some (.int v), x4, x5, x6, x7, x8, x9, x10, x11, x12] st g mi mr Q = tw_E sc d 22 133 [x0, x1, x2, some (.int v), x4, x5, x6, x7, x8, x9, x10, x11, x12] (.int v :: st) g mi mr Q := tw_x_iload_n td_22_132 rfl
theorem td_22_133 : decode (tw_cd 22) 133 = .ok (.iload 11, 2) := by decide +kernel
theorem tz_22_133 : tw_E sc d 22 133 [x0, x1, x2, x3, x4, x5, x6, x7, x8, x9, x10, some (.int v), x12] st g mi mr Q = tw_E sc d 22 135 [x0, x1, x2, x3, x4, x5, x6, x7, x8, x9, x10, some (.int v), x12] (.int v :: st) g mi mr Q := tw_x_iload td_22_133 rfl
theorem td_22_135 : decode (tw_cd 22) 135 = .ok (.invokestatic 193, 3) := by decide +kernel
theorem tz_22_135 {a0 : Int32} {a1 : Int32} : tw_E sc (d + 1) 22 135 [x0, x1, x2, x3, x4, x5, x6, x7, x8, x9, x10, x11, x12] ([.int a1, .int a0]) g mi mr Q = tw_E sc d 31 0 [some (.int a0), some (.int a1)] [] g mi mr (tw_K sc (d + 1) 22 138 [x0, x1, x2, x3, x4, x5, x6, x7, x8, x9, x10, x11, x12] [] Q) := tw_x_cs (as := [.int a0, .int a1]) (r := []) td_22_135 to_22 tmn_0_193 tc_0_193 rfl rfl rfl rfl rfl
theorem td_22_138 : decode (tw_cd 22) 138 = .ok (.iconst 1, 1) := by decide +kernel
theorem tz_22_138 : tw_E sc d 22 138 [x0, x1, x2, x3, x4, x5, x6, x7, x8, x9, x10, x11, x12] st g mi mr Q = tw_E sc d 22 139 [x0, x1, x2, x3, x4, x5, x6, x7, x8, x9, x10, x11, x12] (.int 1 :: st) g mi mr Q := tw_x_iconst td_22_138 (by decide)
theorem td_22_139 : decode (tw_cd 22) 139 = .ok (.if_icmp .ne 11, 3) := by decide +kernel
theorem tz_22_139 : tw_E sc d 22 139 [x0, x1, x2, x3, x4, x5, x6, x7, x8, x9, x10, x11, x12] (.int w :: .int v :: st) g mi mr Q = if ¬ v = w then tw_E sc d 22 150 [x0, x1, x2, x3, x4, x5, x6, x7, x8, x9, x10, x11, x12] st g mi mr Q else tw_E sc d 22 142 [x0, x1, x2, x3, x4, x5, x6, x7, x8, x9, x10, x11, x12] st g mi mr Q := tw_x_ic_ne td_22_139 (by decide)
theorem td_22_142 : decode (tw_cd 22) 142 = .ok (.iload 9, 2) := by decide +kernel
theorem tz_22_142 : tw_E sc d 22 142 [x0, x1, x2, x3, x4, x5, x6, x7, x8, some (.int v), x10, x11, x12] st g mi mr Q = tw_E sc d 22 144 [x0, x1, x2, x3, x4, x5, x6, x7, x8, some (.int v), x10, x11, x12] (.int v :: st) g mi mr Q := tw_x_iload td_22_142 rfl
theorem td_22_144 : decode (tw_cd 22) 144 = .ok (.iload 8, 2) := by decide +kernel
theorem tz_22_144 : tw_E sc d 22 144 [x0, x1, x2, x3, x4, x5, x6, x7, some (.int v), x9, x10, x11, x12] st g mi mr Q = tw_E sc d 22 146 [x0, x1, x2, x3, x4, x5, x6, x7, some (.int v), x9, x10, x11, x12] (.int v :: st) g mi mr Q := tw_x_iload td_22_144 rfl
theorem td_22_146 : decode (tw_cd 22) 146 = .ok (.ior, 1) := by decide +kernel
theorem tz_22_146 : tw_E sc d 22 146 [x0, x1, x2, x3, x4, x5, x6, x7, x8, x9, x10, x11, x12] (.int w :: .int v :: st) g mi mr Q = tw_E sc d 22 147 [x0, x1, x2, x3, x4, x5, x6, x7, x8, x9, x10, x11, x12] (.int (v ||| w) :: st) g mi mr Q := tw_x_ior td_22_146
theorem td_22_147 : decode (tw_cd 22) 147 = .ok (.goto 5, 3) := by decide +kernel
theorem tz_22_147 : tw_E sc d 22 147 [x0, x1, x2, x3, x4, x5, x6, x7, x8, x9, x10, x11, x12] st g mi mr Q = tw_E sc d 22 152 [x0, x1, x2, x3, x4, x5, x6, x7, x8, x9, x10, x11, x12] st g mi mr Q := tw_x_goto td_22_147 (by decide)
theorem td_22_150 : decode (tw_cd 22) 150 = .ok (.iload 9, 2) := by decide +kernel
theorem tz_22_150 : tw_E sc d 22 150 [x0, x1, x2, x3, x4, x5, x6, x7, x8, some (.int v), x10, x11, x12] st g mi mr Q = tw_E sc d 22 152 [x0, x1, x2, x3, x4, x5, x6, x7, x8, some (.int v), x10, x11, x12] (.int v :: st) g mi mr Q := tw_x_iload td_22_150 rfl
theorem td_22_152 : decode (tw_cd 22) 152 = .ok (.istore 12, 2) := by decide +kernel
theorem tz_22_152 : tw_E sc d 22 152 [x0, x1, x2, x3, x4, x5, x6, x7, x8, x9, x10, x11, x12] (.int v :: st) g mi mr Q = tw_E sc d 22 154 [x0, x1, x2, x3, x4, x5, x6, x7, x8, x9, x10, x11, some (.int v)] st g mi mr Q := tw_x_istore td_22_152 tp_22 rfl
theorem td_22_154 : decode (tw_cd 22) 154 = .ok (.iload 10, 2) := by decide +kernel
theorem tz_22_154 : tw_E sc d 22 154 [x0, x1, x2, x3, x4, x5, x6, x7, x8, x9, some (.int v), x11, x12] st g mi mr Q = tw_E sc d 22 156 [x0, x1, x2, x3, x4, x5, x6, x7, x8, x9, some (.int v), x11, x12] (.int v :: st) g mi mr Q := tw_x_iload td_22_154 rfl
theorem td_22_156 : decode (tw_cd 22) 156 = .ok (.aload_n 0, 1) := by decide +kernel
theorem tz_22_156 : tw_E sc d 22 156 [some (.ref a), x1, x2, x3, x4, x5, x6, x7, x8, x9, x10, x11, x12] st g mi mr Q = tw_E sc d 22 157 [some (.ref a), x1, x2, x3, x4, x5, x6, x7, x8, x9, x10, x11, x12] (.ref a :: st) g mi mr Q := tw_x_aload_n td_22_156 rfl
theorem td_22_157 : decode (tw_cd 22) 157 = .ok (.iload 12, 2) := by decide +kernel
theorem tz_22_157 : tw_E sc d 22 157 [x0, x1, x2, x3, x4, x5, x6, x7, x8, x9, x10, x11, some (.int v)] st g mi mr Q = tw_E sc d 22 159 [x0, x1, x2, x3, x4, x5, x6, x7, x8, x9, x10, x11, some (.int v)] (.int v :: st) g mi mr Q := tw_x_iload td_22_157 rfl
theorem td_22_159 : decode (tw_cd 22) 159 = .ok (.iload 12, 2) := by decide +kernel
theorem tz_22_159 : tw_E sc d 22 159 [x0, x1, x2, x3, x4, x5, x6, x7, x8, x9, x10, x11, some (.int v)] st g mi mr Q = tw_E sc d 22 161 [x0, x1, x2, x3, x4, x5, x6, x7, x8, x9, x10, x11, some (.int v)] (.int v :: st) g mi mr Q := tw_x_iload td_22_159 rfl
theorem td_22_161 : decode (tw_cd 22) 161 = .ok (.iload 7, 2) := by decide +kernel
theorem tz_22_161 : tw_E sc d 22 161 [x0, x1, x2, x3, x4, x5, x6, some (.int v), x8, x9, x10, x11, x12] st g mi mr Q = tw_E sc d 22 163 [x0, x1, x2, x3, x4, x5, x6, some (.int v), x8, x9, x10, x11, x12] (.int v :: st) g mi mr Q := tw_x_iload td_22_161 rfl
theorem td_22_163 : decode (tw_cd 22) 163 = .ok (.ior, 1) := by decide +kernel
theorem tz_22_163 : tw_E sc d 22 163 [x0, x1, x2, x3, x4, x5, x6, x7, x8, x9, x10, x11, x12] (.int w :: .int v :: st) g mi mr Q = tw_E sc d 22 164 [x0, x1, x2, x3, x4, x5, x6, x7, x8, x9, x10, x11, x12] (.int (v ||| w) :: st) g mi mr Q := tw_x_ior td_22_163
theorem td_22_164 : decode (tw_cd 22) 164 = .ok (.iload 12, 2) := by decide +kernel
theorem tz_22_164 : tw_E sc d 22 164 [x0, x1, x2, x3, x4, x5, x6, x7, x8, x9, x10, x11, some (.int v)] st g mi mr Q = tw_E sc d 22 166 [x0, x1, x2, x3, x4, x5, x6, x7, x8, x9, x10, x11, some (.int v)] (.int v :: st) g mi mr Q := tw_x_iload td_22_164 rfl
theorem td_22_166 : decode (tw_cd 22) 166 = .ok (.invokevirtual 190, 3) := by decide +kernel
theorem tz_22_166 {a0 : Int32} {a1 : Int32} {a2 : Int32} : tw_E sc (d + 1) 22 166 [x0, x1, x2, x3, x4, x5, x6, x7, x8, x9, x10, x11, x12] ([.int a2, .int a1, .int a0, .ref a, s1]) g mi mr Q = (tw_kd g a = 0 ∧ tw_E sc d 29 0 [some (.ref a), some (.int a0), some (.int a1), some (.int a2)] [] g mi mr (tw_K sc (d + 1) 22 169 [x0, x1, x2, x3, x4, x5, x6, x7, x8, x9, x10, x11, x12] [s1] Q)) := tw_x_cv (as := [.int a0, .int a1, .int a2]) (r := [s1]) td_22_166 to_22 tc_0_190 to_29 rfl rfl rfl rfl
theorem td_22_169 : decode (tw_cd 22) 169 = .ok (.iadd, 1) := by decide +kernel
theorem tz_22_169 : tw_E sc d 22 169 [x0, x1, x2, x3, x4, x5, x6, x7, x8, x9, x10, x11, x12] (.int w :: .int v :: st) g mi mr Q = tw_E sc d 22 170 [x0, x1, x2, x3, x4, x5, x6, x7, x8, x9, x10, x11, x12] (.int (v + w) :: st) g mi mr Q := tw_x_iadd td_22_169
theorem td_22_170 : decode (tw_cd 22) 170 = .ok (.istore 10, 2) := by decide +kernel
theorem tz_22_170 : tw_E sc d 22 170 [x0, x1, x2, x3, x4, x5, x6, x7, x8, x9, x10, x11, x12] (.int v :: st) g mi mr Q = tw_E sc d 22 172 [x0, x1, x2, x3, x4, x5, x6, x7, x8, x9, some (.int v), x11, x12] st g mi mr Q := tw_x_istore td_22_170 tp_22 rfl
theorem td_22_172 : decode (tw_cd 22) 172 = .ok (.iinc 11 (-1), 3) := by decide +kernel
theorem tz_22_172 : tw_E sc d 22 172 [x0, x1, x2, x3, x4, x5, x6, x7, x8, x9, x10, some (.int v), x12] st g mi mr Q = tw_E sc d 22 175 [x0, x1, x2, x3, x4, x5, x6, x7, x8, x9, x10, some (.int (v + (-1))), x12] st g mi mr Q := tw_x_iinc td_22_172 rfl (by first | rfl | (exact congrArg (v + ·) (by decide))) tp_22 rfl
theorem td_22_175 : decode (tw_cd 22) 175 = .ok (.goto (-48), 3) := by decide +kernel
theorem tz_22_175 : tw_E sc d 22 175 [x0, x1, x2, x3, x4, x5, x6, x7, x8, x9, x10, x11, x12] st g mi mr Q = tw_E sc d 22 127 [x0, x1, x2, x3, x4, x5, x6, x7, x8, x9, x10, x11, x12] st g mi mr Q := tw_x_goto td_22_175 (by decide)
theorem td_22_178 : decode (tw_cd 22) 178 = .ok (.iload 10, 2) := by decide +kernel
theorem tz_22_178 : tw_E sc d 22 178 [x0, x1, x2, x3, x4, x5, x6, x7, x8, x9, some (.int v), x11, x12] st g mi mr Q = tw_E sc d 22 180 [x0, x1, x2, x3, x4, x5, x6, x7, x8, x9, some (.int v), x11, x12] (.int v :: st) g mi mr Q := tw_x_iload td_22_178 rfl
theorem td_22_180 : decode (tw_cd 22) 180 = .ok (.iload 5, 2) := by decide +kernel
theorem tz_22_180 : tw_E sc d 22 180 [x0, x1, x2, x3, x4, some (.int v), x6, x7, x8, x9, x10, x11, x12] st g mi mr Q = tw_E sc d 22 182 [x0, x1, x2, x3, x4, some (.int v), x6, x7, x8, x9, x10, x11, x12] (.int v :: st) g mi mr Q := tw_x_iload td_22_180 rfl
theorem td_22_182 : decode (tw_cd 22) 182 = .ok (.ifCond .eq 25, 3) := by decide +kernel
theorem tz_22_182 : tw_E sc d 22 182 [x0, x1, x2, x3, x4, x5, x6, x7, x8, x9, x10, x11, x12] (.int v :: st) g mi mr Q = if v = 0 then tw_E sc d 22 207 [x0, x1, x2, x3, x4, x5, x6, x7, x8, x9, x10, x11, x12] st g mi mr Q else tw_E sc d 22 185 [x0, x1, x2, x3, x4, x5, x6, x7, x8, x9, x10, x11, x12] st g mi mr Q := tw_x_if_eq td_22_182 (by decide)
theorem td_22_185 : decode (tw_cd 22) 185 = .ok (.aload_n 0, 1) := by decide +kernel
theorem tz_22_185 : tw_E sc d 22 185 [some (.ref a), x1, x2, x3, x4, x5, x6, x7, x8, x9, x10, x11, x12] st g mi mr Q = tw_E sc d 22 186 [some (.ref a), x1, x2, x3, x4, x5, x6, x7, x8, x9, x10, x11, x12] (.ref a :: st) g mi mr Q := tw_x_aload_n td_22_185 rfl
theorem td_22_186 : decode (tw_cd 22) 186 = .ok (.iload 9, 2) := by decide +kernel
theorem tz_22_186 : tw_E sc d 22 186 [x0, x1, x2, x3, x4, x5, x6, x7, x8, some (.int v), x10, x11, x12] st g mi mr Q = tw_E sc d 22 188 [x0, x1, x2, x3, x4, x5, x6, x7, x8, some (.int v), x10, x11, x12] (.int v :: st) g mi mr Q := tw_x_iload td_22_186 rfl
theorem td_22_188 : decode (tw_cd 22) 188 = .ok (.iload 9, 2) := by decide +kernel
theorem tz_22_188 : tw_E sc d 22 188 [x0, x1, x2, x3, x4, x5, x6, x7, x8, some (.int v), x10, x11, x12] st g mi mr Q = tw_E sc d 22 190 [x0, x1, x2, x3, x4, x5, x6, x7, x8, some (.int v), x10, x11, x12] (.int v :: st) g mi mr Q := tw_x_iload td_22_188 rfl
theorem td_22_190 : decode (tw_cd 22) 190 = .ok (.iload 7, 2) := by decide +kernel
theorem tz_22_190 : tw_E sc d 22 190 [x0, x1, x2, x3, x4, x5, x6, some (.int v), x8, x9, x10, x11, x12] st g mi mr Q = tw_E sc d 22 192 [x0, x1, x2, x3, x4, x5, x6, some (.int v), x8, x9, x10, x11, x12] (.int v :: st) g mi mr Q := tw_x_iload td_22_190 rfl
theorem td_22_192 : decode (tw_cd 22) 192 = .ok (.ior, 1) := by decide +kernel
theorem tz_22_192 : tw_E sc d 22 192 [x0, x1, x2, x3, x4, x5, x6, x7, x8, x9, x10, x11, x12] (.int w :: .int v :: st) g mi mr Q = tw_E sc d 22 193 [x0, x1, x2, x3, x4, x5, x6, x7, x8, x9, x10, x11, x12] (.int (v ||| w) :: st) g mi mr Q := tw_x_ior td_22_192
theorem td_22_193 : decode (tw_cd 22) 193 = .ok (.iload 9, 2) := by decide +kernel
theorem tz_22_193 : tw_E sc d 22 193 [x0, x1, x2, x3, x4, x5, x6, x7, x8, some (.int v), x10, x11, x12] st g mi mr Q = tw_E sc d 22 195 [x0, x1, x2, x3, x4, x5, x6, x7, x8, some (.int v), x10, x11, x12] (.int v :: st) g mi mr Q := tw_x_iload td_22_193 rfl
theorem td_22_195 : decode (tw_cd 22) 195 = .ok (.iload 7, 2) := by decide +kernel
theorem tz_22_195 : tw_E sc d 22 195 [x0, x1, x2, x3, x4, x5, x6, some (.int v), x8, x9, x10, x11, x12] st g mi mr Q = tw_E sc d 22 197 [x0, x1, x2, x3, x4, x5, x6, some (.int v), x8, x9, x10, x11, x12] (.int v :: st) g mi mr Q := tw_x_iload td_22_195 rfl
theorem td_22_197 : decode (tw_cd 22) 197 = .ok (.ior, 1) := by decide +kernel
theorem tz_22_197 : tw_E sc d 22 197 [x0, x1, x2, x3, x4, x5, x6, x7, x8, x9, x10, x11, x12] (.int w :: .int v :: st) g mi mr Q = tw_E sc d 22 198 [x0, x1, x2, x3, x4, x5, x6, x7, x8, x9, x10, x11, x12] (.int (v ||| w) :: st) g mi mr Q := tw_x_ior td_22_197
theorem td_22_198 : decode (tw_cd 22) 198 = .ok (.iload 8, 2) := by decide +kernel
theorem tz_22_198 : tw_E sc d 22 198 [x0, x1, x2, x3, x4, x5, x6, x7, some (.int v), x9, x10, x11, x12] st g mi mr Q = tw_E sc d 22 200 [x0, x1, x2, x3, x4, x5, x6, x7, some (.int v), x9, x10, x11, x12] (.int v :: st) g mi mr Q := tw_x_iload td_22_198 rfl
theorem td_22_200 : decode (tw_cd 22) 200 = .ok (.ior, 1) := by decide +kernel
theorem tz_22_200 : tw_E sc d 22 200 [x0, x1, x2, x3, x4, x5, x6, x7, x8, x9, x10, x11, x12] (.int w :: .int v :: st) g mi mr Q = tw_E sc d 22 201 [x0, x1, x2, x3, x4, x5, x6, x7, x8, x9, x10, x11, x12] (.int (v ||| w) :: st) g mi mr Q := tw_x_ior td_22_200
theorem td_22_201 : decode (tw_cd 22) 201 = .ok (.invokevirtual 190, 3) := by decide +kernel
theorem tz_22_201 {a0 : Int32} {a1 : Int32} {a2 : Int32} : tw_E sc (d + 1) 22 201 [x0, x1, x2, x3, x4, x5, x6, x7, x8, x9, x10, x11, x12] ([.int a2, .int a1, .int a0, .ref a, s1]) g mi mr Q = (tw_kd g a = 0 ∧ tw_E sc d 29 0 [some (.ref a), some (.int a0), some (.int a1), some (.int a2)] [] g mi mr (tw_K sc (d + 1) 22 204 [x0, x1, x2, x3, x4, x5, x6, x7, x8, x9, x10, x11, x12] [s1] Q)) := tw_x_cv (as := [.int a0, .int a1, .int a2]) (r := [s1]) td_22_201 to_22 tc_0_190 to_29 rfl rfl rfl rfl
theorem td_22_204 : decode (tw_cd 22) 204 = .ok (.goto 4, 3) := by decide +kernel
theorem tz_22_204 : tw_E sc d 22 204 [x0, x1, x2, x3, x4, x5, x6, x7, x8, x9, x10, x11, x12] st g mi mr Q = tw_E sc d 22 208 [x0, x1, x2, x3, x4, x5, x6, x7, x8, x9, x10, x11, x12] st g mi mr Q := tw_x_goto td_22_204 (by decide)
theorem td_22_207 : decode (tw_cd 22) 207 = .ok (.iconst 0, 1) := by decide +kernel
theorem tz_22_207 : tw_E sc d 22 207 [x0, x1, x2, x3, x4, x5, x6, x7, x8, x9, x10, x11, x12] st g mi mr Q = tw_E sc d 22 208 [x0, x1, x2, x3, x4, x5, x6, x7, x8, x9, x10, x11, x12] (.int 0 :: st) g mi mr Q := tw_x_iconst td_22_207 (by decide)
theorem td_22_208 : decode (tw_cd 22) 208 = .ok (.iadd, 1) := by decide +kernel
theorem tz_22_208 : tw_E sc d 22 208 [x0, x1, x2, x3, x4, x5, x6, x7, x8, x9, x10, x11, x12] (.int w :: .int v :: st) g mi mr Q = tw_E sc d 22 209 [x0, x1, x2, x3, x4, x5, x6, x7, x8, x9, x10, x11, x12] (.int (v + w) :: st) g mi mr Q := tw_x_iadd td_22_208
theorem td_22_209 : decode (tw_cd 22) 209 = .ok (.ireturn, 1) := by decide +kernel
theorem tz_22_209 : tw_E sc d 22 209 [x0, x1, x2, x3, x4, x5, x6, x7, x8, x9, x10, x11, x12] ([.int v]) g mi mr Q = Q (some (.int v)) g mi mr := tw_x_iret td_22_209 tr_22
end tz_22
-- 23: Tl_total
section tz_23
variable {sc : Nat × (Nat → Int32)} {d : Nat} {x0 x1 : Option Value} {st : List Value} {g : tw_G} {mi : tw_I} {mr : tw_Q} {Q : Option Value → tw_G → tw_I → tw_Q → Prop} {v w u : Int32} {a b : Nat} {j h : Int64} {s1 s2 s3 s4 : Value}
theorem td_23_0 : decode (tw_cd 23) 0 = .ok (.iload_n 1, 1) := by decide +kernel
theorem tz_23_0 : tw_E sc d 23 0 [x0, some (.int v)] st g mi mr Q = tw_E sc d 23 1 [x0, some (.int v)] (.int v :: st) g mi mr Q := tw_x_iload_n td_23_0 rfl
theorem td_23_1 : decode (tw_cd 23) 1 = .ok (.tableswitch 87 0 5 #[39, 47, 55, 63, 71, 79], 39) := by decide +kernel
theorem tz_23_1 : tw_E sc d 23 1 [x0, x1] (.int v :: st) g mi mr Q = tw_E sc d 23 (tw_sw v 0 [40, 48, 56, 64, 72, 80] 88) [x0, x1] st g mi mr Q := tw_x_ts td_23_1 (by decide) (by decide) (by decide)
theorem td_23_40 : decode (tw_cd 23) 40 = .ok (.aload_n 0, 1) := by decide +kernel
theorem tz_23_40 : tw_E sc d 23 40 [some (.ref a), x1] st g mi mr Q = tw_E sc d 23 41 [some (.ref a), x1] (.ref a :: st) g mi mr Q := tw_x_aload_n td_23_40 rfl
theorem td_23_41 : decode (tw_cd 23) 41 = .ok (.getfield 12, 3) := by decide +kernel
theorem tz_23_41 : tw_E sc d 23 41 [x0, x1] (.ref a :: st) g mi mr Q = (tw_kd g a = 0 ∧ tw_E sc d 23 44 [x0, x1] (va_rf (mr a 7) :: st) g mi mr Q) := tw_x_getr td_23_41 to_23 tf_0_12 (trf_0_7)
theorem td_23_44 : decode (tw_cd 23) 44 = .ok (.invokevirtual 93, 3) := by decide +kernel
theorem tz_23_44 : tw_E sc (d + 1) 23 44 [x0, x1] ([.ref a]) g mi mr Q = (tw_kd g a = 1 ∧ tw_E sc d 37 0 [some (.ref a)] [] g mi mr (tw_K sc (d + 1) 23 47 [x0, x1] [] Q)) := tw_x_cv (as := []) (r := []) td_23_44 to_23 tc_0_93 to_37 rfl rfl rfl rfl
theorem td_23_47 : decode (tw_cd 23) 47 = .ok (.ireturn, 1) := by decide +kernel
theorem tz_23_47 : tw_E sc d 23 47 [x0, x1] ([.int v]) g mi mr Q = Q (some (.int v)) g mi mr := tw_x_iret td_23_47 tr_23
theorem td_23_48 : decode (tw_cd 23) 48 = .ok (.aload_n 0, 1) := by decide +kernel
theorem tz_23_48 : tw_E sc d 23 48 [some (.ref a), x1] st g mi mr Q = tw_E sc d 23 49 [some (.ref a), x1] (.ref a :: st) g mi mr Q := tw_x_aload_n td_23_48 rfl
theorem td_23_49 : decode (tw_cd 23) 49 = .ok (.getfield 38, 3) := by decide +kernel
theorem tz_23_49 : tw_E sc d 23 49 [x0, x1] (.ref a :: st) g mi mr Q = (tw_kd g a = 0 ∧ tw_E sc d 23 52 [x0, x1] (va_rf (mr a 2) :: st) g mi mr Q) := tw_x_getr td_23_49 to_23 tf_0_38 (trf_0_2)
theorem td_23_52 : decode (tw_cd 23) 52 = .ok (.invokevirtual 115, 3) := by decide +kernel
theorem tz_23_52 : tw_E sc (d + 1) 23 52 [x0, x1] ([.ref a]) g mi mr Q = (tw_kd g a = 5 ∧ tw_E sc d 90 0 [some (.ref a)] [] g mi mr (tw_K sc (d + 1) 23 55 [x0, x1] [] Q)) := tw_x_cv (as := []) (r := []) td_23_52 to_23 tc_0_115 to_90 rfl rfl rfl rfl
theorem td_23_55 : decode (tw_cd 23) 55 = .ok (.ireturn, 1) := by decide +kernel
theorem tz_23_55 : tw_E sc d 23 55 [x0, x1] ([.int v]) g mi mr Q = Q (some (.int v)) g mi mr := tw_x_iret td_23_55 tr_23
theorem td_23_56 : decode (tw_cd 23) 56 = .ok (.aload_n 0, 1) := by decide +kernel
theorem tz_23_56 : tw_E sc d 23 56 [some (.ref a), x1] st g mi mr Q = tw_E sc d 23 57 [some (.ref a), x1] (.ref a :: st) g mi mr Q := tw_x_aload_n td_23_56 rfl
theorem td_23_57 : decode (tw_cd 23) 57 = .ok (.getfield 38, 3) := by decide +kernel
theorem tz_23_57 : tw_E sc d 23 57 [x0, x1] (.ref a :: st) g mi mr Q = (tw_kd g a = 0 ∧ tw_E sc d 23 60 [x0, x1] (va_rf (mr a 2) :: st) g mi mr Q) := tw_x_getr td_23_57 to_23 tf_0_38 (trf_0_2)
theorem td_23_60 : decode (tw_cd 23) 60 = .ok (.invokevirtual 196, 3) := by decide +kernel
theorem tz_23_60 : tw_E sc (d + 1) 23 60 [x0, x1] ([.ref a]) g mi mr Q = (tw_kd g a = 5 ∧ tw_E sc d 91 0 [some (.ref a)] [] g mi mr (tw_K sc (d + 1) 23 63 [x0, x1] [] Q)) := tw_x_cv (as := []) (r := []) td_23_60 to_23 tc_0_196 to_91 rfl rfl rfl rfl
theorem td_23_63 : decode (tw_cd 23) 63 = .ok (.ireturn, 1) := by decide +kernel
theorem tz_23_63 : tw_E sc d 23 63 [x0, x1] ([.int v]) g mi mr Q = Q (some (.int v)) g mi mr := tw_x_iret td_23_63 tr_23
theorem td_23_64 : decode (tw_cd 23) 64 = .ok (.aload_n 0, 1) := by decide +kernel
theorem tz_23_64 : tw_E sc d 23 64 [some (.ref a), x1] st g mi mr Q = tw_E sc d 23 65 [some (.ref a), x1] (.ref a :: st) g mi mr Q := tw_x_aload_n td_23_64 rfl
theorem td_23_65 : decode (tw_cd 23) 65 = .ok (.getfield 45, 3) := by decide +kernel
theorem tz_23_65 : tw_E sc d 23 65 [x0, x1] (.ref a :: st) g mi mr Q = (tw_kd g a = 0 ∧ tw_E sc d 23 68 [x0, x1] (va_rf (mr a 3) :: st) g mi mr Q) := tw_x_getr td_23_65 to_23 tf_0_45 (trf_0_3)
theorem td_23_68 : decode (tw_cd 23) 68 = .ok (.invokevirtual 155, 3) := by decide +kernel
theorem tz_23_68 : tw_E sc (d + 1) 23 68 [x0, x1] ([.ref a]) g mi mr Q = (tw_kd g a = 6 ∧ tw_E sc d 101 0 [some (.ref a)] [] g mi mr (tw_K sc (d + 1) 23 71 [x0, x1] [] Q)) := tw_x_cv (as := []) (r := []) td_23_68 to_23 tc_0_155 to_101 rfl rfl rfl rfl
theorem td_23_71 : decode (tw_cd 23) 71 = .ok (.ireturn, 1) := by decide +kernel
theorem tz_23_71 : tw_E sc d 23 71 [x0, x1] ([.int v]) g mi mr Q = Q (some (.int v)) g mi mr := tw_x_iret td_23_71 tr_23
theorem td_23_72 : decode (tw_cd 23) 72 = .ok (.aload_n 0, 1) := by decide +kernel
theorem tz_23_72 : tw_E sc d 23 72 [some (.ref a), x1] st g mi mr Q = tw_E sc d 23 73 [some (.ref a), x1] (.ref a :: st) g mi mr Q := tw_x_aload_n td_23_72 rfl
theorem td_23_73 : decode (tw_cd 23) 73 = .ok (.getfield 52, 3) := by decide +kernel
theorem tz_23_73 : tw_E sc d 23 73 [x0, x1] (.ref a :: st) g mi mr Q = (tw_kd g a = 0 ∧ tw_E sc d 23 76 [x0, x1] (va_rf (mr a 4) :: st) g mi mr Q) := tw_x_getr td_23_73 to_23 tf_0_52 (trf_0_4)
theorem td_23_76 : decode (tw_cd 23) 76 = .ok (.invokevirtual 176, 3) := by decide +kernel
theorem tz_23_76 : tw_E sc (d + 1) 23 76 [x0, x1] ([.ref a]) g mi mr Q = (tw_kd g a = 7 ∧ tw_E sc d 110 0 [some (.ref a)] [] g mi mr (tw_K sc (d + 1) 23 79 [x0, x1] [] Q)) := tw_x_cv (as := []) (r := []) td_23_76 to_23 tc_0_176 to_110 rfl rfl rfl rfl
theorem td_23_79 : decode (tw_cd 23) 79 = .ok (.ireturn, 1) := by decide +kernel
theorem tz_23_79 : tw_E sc d 23 79 [x0, x1] ([.int v]) g mi mr Q = Q (some (.int v)) g mi mr := tw_x_iret td_23_79 tr_23
theorem td_23_80 : decode (tw_cd 23) 80 = .ok (.aload_n 0, 1) := by decide +kernel
theorem tz_23_80 : tw_E sc d 23 80 [some (.ref a), x1] st g mi mr Q = tw_E sc d 23 81 [some (.ref a), x1] (.ref a :: st) g mi mr Q := tw_x_aload_n td_23_80 rfl
theorem td_23_81 : decode (tw_cd 23) 81 = .ok (.getfield 22, 3) := by decide +kernel
theorem tz_23_81 : tw_E sc d 23 81 [x0, x1] (.ref a :: st) g mi mr Q = (tw_kd g a = 0 ∧ tw_E sc d 23 84 [x0, x1] (va_rf (mr a 0) :: st) g mi mr Q) := tw_x_getr td_23_81 to_23 tf_0_22 (trf_0_0)
theorem td_23_84 : decode (tw_cd 23) 84 = .ok (.invokevirtual 76, 3) := by decide +kernel
theorem tz_23_84 : tw_E sc (d + 1) 23 84 [x0, x1] ([.ref a]) g mi mr Q = (tw_kd g a = 3 ∧ tw_E sc d 61 0 [some (.ref a)] [] g mi mr (tw_K sc (d + 1) 23 87 [x0, x1] [] Q)) := tw_x_cv (as := []) (r := []) td_23_84 to_23 tc_0_76 to_61 rfl rfl rfl rfl
theorem td_23_87 : decode (tw_cd 23) 87 = .ok (.ireturn, 1) := by decide +kernel
theorem tz_23_87 : tw_E sc d 23 87 [x0, x1] ([.int v]) g mi mr Q = Q (some (.int v)) g mi mr := tw_x_iret td_23_87 tr_23
theorem td_23_88 : decode (tw_cd 23) 88 = .ok (.bipush (-2), 2) := by decide +kernel
theorem tz_23_88 : tw_E sc d 23 88 [x0, x1] st g mi mr Q = tw_E sc d 23 90 [x0, x1] (.int (-2) :: st) g mi mr Q := tw_x_bipush td_23_88 (by decide)
theorem td_23_90 : decode (tw_cd 23) 90 = .ok (.ireturn, 1) := by decide +kernel
theorem tz_23_90 : tw_E sc d 23 90 [x0, x1] ([.int v]) g mi mr Q = Q (some (.int v)) g mi mr := tw_x_iret td_23_90 tr_23
end tz_23
-- 24: Tl_hasTrigger
section tz_24
variable {sc : Nat × (Nat → Int32)} {d : Nat} {x0 : Option Value} {st : List Value} {g : tw_G} {mi : tw_I} {mr : tw_Q} {Q : Option Value → tw_G → tw_I → tw_Q → Prop} {v w u : Int32} {a b : Nat} {j h : Int64} {s1 s2 s3 s4 : Value}
theorem td_24_0 : decode (tw_cd 24) 0 = .ok (.aload_n 0, 1) := by decide +kernel
theorem tz_24_0 : tw_E sc d 24 0 [some (.ref a)] st g mi mr Q = tw_E sc d 24 1 [some (.ref a)] (.ref a :: st) g mi mr Q := tw_x_aload_n td_24_0 rfl
theorem td_24_1 : decode (tw_cd 24) 1 = .ok (.getfield 12, 3) := by decide +kernel
theorem tz_24_1 : tw_E sc d 24 1 [x0] (.ref a :: st) g mi mr Q = (tw_kd g a = 0 ∧ tw_E sc d 24 4 [x0] (va_rf (mr a 7) :: st) g mi mr Q) := tw_x_getr td_24_1 to_24 tf_0_12 (trf_0_7)
theorem td_24_4 : decode (tw_cd 24) 4 = .ok (.invokevirtual 93, 3) := by decide +kernel
theorem tz_24_4 : tw_E sc (d + 1) 24 4 [x0] ([.ref a]) g mi mr Q = (tw_kd g a = 1 ∧ tw_E sc d 37 0 [some (.ref a)] [] g mi mr (tw_K sc (d + 1) 24 7 [x0] [] Q)) := tw_x_cv (as := []) (r := []) td_24_4 to_24 tc_0_93 to_37 rfl rfl rfl rfl
theorem td_24_7 : decode (tw_cd 24) 7 = .ok (.ifCond .le 7, 3) := by decide +kernel
theorem tz_24_7 : tw_E sc d 24 7 [x0] (.int v :: st) g mi mr Q = if v ≤ 0 then tw_E sc d 24 14 [x0] st g mi mr Q else tw_E sc d 24 10 [x0] st g mi mr Q := tw_x_if_le td_24_7 (by decide)
theorem td_24_10 : decode (tw_cd 24) 10 = .ok (.iconst 1, 1) := by decide +kernel
theorem tz_24_10 : tw_E sc d 24 10 [x0] st g mi mr Q = tw_E sc d 24 11 [x0] (.int 1 :: st) g mi mr Q := tw_x_iconst td_24_10 (by decide)
theorem td_24_11 : decode (tw_cd 24) 11 = .ok (.goto 4, 3) := by decide +kernel
theorem tz_24_11 : tw_E sc d 24 11 [x0] st g mi mr Q = tw_E sc d 24 15 [x0] st g mi mr Q := tw_x_goto td_24_11 (by decide)
theorem td_24_14 : decode (tw_cd 24) 14 = .ok (.iconst 0, 1) := by decide +kernel
theorem tz_24_14 : tw_E sc d 24 14 [x0] st g mi mr Q = tw_E sc d 24 15 [x0] (.int 0 :: st) g mi mr Q := tw_x_iconst td_24_14 (by decide)
theorem td_24_15 : decode (tw_cd 24) 15 = .ok (.ireturn, 1) := by decide +kernel
theorem tz_24_15 : tw_E sc d 24 15 [x0] ([.int v]) g mi mr Q = ((v = 0 ∨ v = 1) ∧ Q (some (.int v)) g mi mr) := tw_x_zret td_24_15 tr_24
end tz_24
-- 25: Tl_startAnew
section tz_25
variable {sc : Nat × (Nat → Int32)} {d : Nat} {x0 : Option Value} {st : List Value} {g : tw_G} {mi : tw_I} {mr : tw_Q} {Q : Option Value → tw_G → tw_I → tw_Q → Prop} {v w u : Int32} {a b : Nat} {j h : Int64} {s1 s2 s3 s4 : Value}
theorem td_25_0 : decode (tw_cd 25) 0 = .ok (.aload_n 0, 1) := by decide +kernel
theorem tz_25_0 : tw_E sc d 25 0 [some (.ref a)] st g mi mr Q = tw_E sc d 25 1 [some (.ref a)] (.ref a :: st) g mi mr Q := tw_x_aload_n td_25_0 rfl
theorem td_25_1 : decode (tw_cd 25) 1 = .ok (.getfield 38, 3) := by decide +kernel
theorem tz_25_1 : tw_E sc d 25 1 [x0] (.ref a :: st) g mi mr Q = (tw_kd g a = 0 ∧ tw_E sc d 25 4 [x0] (va_rf (mr a 2) :: st) g mi mr Q) := tw_x_getr td_25_1 to_25 tf_0_38 (trf_0_2)
theorem td_25_4 : decode (tw_cd 25) 4 = .ok (.invokevirtual 199, 3) := by decide +kernel
theorem tz_25_4 : tw_E sc (d + 1) 25 4 [x0] ([.ref a]) g mi mr Q = (tw_kd g a = 5 ∧ tw_E sc d 89 0 [some (.ref a)] [] g mi mr (tw_K sc (d + 1) 25 7 [x0] [] Q)) := tw_x_cv (as := []) (r := []) td_25_4 to_25 tc_0_199 to_89 rfl rfl rfl rfl
theorem td_25_7 : decode (tw_cd 25) 7 = .ok (.aload_n 0, 1) := by decide +kernel
theorem tz_25_7 : tw_E sc d 25 7 [some (.ref a)] st g mi mr Q = tw_E sc d 25 8 [some (.ref a)] (.ref a :: st) g mi mr Q := tw_x_aload_n td_25_7 rfl
theorem td_25_8 : decode (tw_cd 25) 8 = .ok (.getfield 12, 3) := by decide +kernel
theorem tz_25_8 : tw_E sc d 25 8 [x0] (.ref a :: st) g mi mr Q = (tw_kd g a = 0 ∧ tw_E sc d 25 11 [x0] (va_rf (mr a 7) :: st) g mi mr Q) := tw_x_getr td_25_8 to_25 tf_0_12 (trf_0_7)
theorem td_25_11 : decode (tw_cd 25) 11 = .ok (.invokevirtual 200, 3) := by decide +kernel
theorem tz_25_11 : tw_E sc (d + 1) 25 11 [x0] ([.ref a]) g mi mr Q = (tw_kd g a = 1 ∧ tw_E sc d 40 0 [some (.ref a), none] [] g mi mr (tw_K sc (d + 1) 25 14 [x0] [] Q)) := tw_x_cv (as := []) (r := []) td_25_11 to_25 tc_0_200 to_40 rfl rfl rfl rfl
theorem td_25_14 : decode (tw_cd 25) 14 = .ok (.return_, 1) := by decide +kernel
theorem tz_25_14 : tw_E sc d 25 14 [x0] [] g mi mr Q = Q none g mi mr := tw_x_vret td_25_14 tr_25
end tz_25
-- 26: Tl_refusalOf
section tz_26
variable {sc : Nat × (Nat → Int32)} {d : Nat} {x0 x1 : Option Value} {st : List Value} {g : tw_G} {mi : tw_I} {mr : tw_Q} {Q : Option Value → tw_G → tw_I → tw_Q → Prop} {v w u : Int32} {a b : Nat} {j h : Int64} {s1 s2 s3 s4 : Value}
theorem td_26_0 : decode (tw_cd 26) 0 = .ok (.aload_n 0, 1) := by decide +kernel
theorem tz_26_0 : tw_E sc d 26 0 [some (.ref a), x1] st g mi mr Q = tw_E sc d 26 1 [some (.ref a), x1] (.ref a :: st) g mi mr Q := tw_x_aload_n td_26_0 rfl
theorem td_26_1 : decode (tw_cd 26) 1 = .ok (.invokevirtual 111, 3) := by decide +kernel
theorem tz_26_1 : tw_E sc (d + 1) 26 1 [x0, x1] ([.ref a]) g mi mr Q = (tw_kd g a = 0 ∧ tw_E sc d 24 0 [some (.ref a)] [] g mi mr (tw_K sc (d + 1) 26 4 [x0, x1] [] Q)) := tw_x_cv (as := []) (r := []) td_26_1 to_26 tc_0_111 to_24 rfl rfl rfl rfl
theorem td_26_4 : decode (tw_cd 26) 4 = .ok (.ifCond .ne 6, 3) := by decide +kernel
theorem tz_26_4 : tw_E sc d 26 4 [x0, x1] (.int v :: st) g mi mr Q = if ¬ v = 0 then tw_E sc d 26 10 [x0, x1] st g mi mr Q else tw_E sc d 26 7 [x0, x1] st g mi mr Q := tw_x_if_ne td_26_4 (by decide)
theorem td_26_7 : decode (tw_cd 26) 7 = .ok (.bipush (-3), 2) := by decide +kernel
theorem tz_26_7 : tw_E sc d 26 7 [x0, x1] st g mi mr Q = tw_E sc d 26 9 [x0, x1] (.int (-3) :: st) g mi mr Q := tw_x_bipush td_26_7 (by decide)
theorem td_26_9 : decode (tw_cd 26) 9 = .ok (.ireturn, 1) := by decide +kernel
theorem tz_26_9 : tw_E sc d 26 9 [x0, x1] ([.int v]) g mi mr Q = Q (some (.int v)) g mi mr := tw_x_iret td_26_9 tr_26
theorem td_26_10 : decode (tw_cd 26) 10 = .ok (.aload_n 0, 1) := by decide +kernel
theorem tz_26_10 : tw_E sc d 26 10 [some (.ref a), x1] st g mi mr Q = tw_E sc d 26 11 [some (.ref a), x1] (.ref a :: st) g mi mr Q := tw_x_aload_n td_26_10 rfl
theorem td_26_11 : decode (tw_cd 26) 11 = .ok (.getfield 38, 3) := by decide +kernel
theorem tz_26_11 : tw_E sc d 26 11 [x0, x1] (.ref a :: st) g mi mr Q = (tw_kd g a = 0 ∧ tw_E sc d 26 14 [x0, x1] (va_rf (mr a 2) :: st) g mi mr Q) := tw_x_getr td_26_11 to_26 tf_0_38 (trf_0_2)
theorem td_26_14 : decode (tw_cd 26) 14 = .ok (.iload_n 1, 1) := by decide +kernel
theorem tz_26_14 : tw_E sc d 26 14 [x0, some (.int v)] st g mi mr Q = tw_E sc d 26 15 [x0, some (.int v)] (.int v :: st) g mi mr Q := tw_x_iload_n td_26_14 rfl
theorem td_26_15 : decode (tw_cd 26) 15 = .ok (.invokevirtual 203, 3) := by decide +kernel
theorem tz_26_15 {a0 : Int32} : tw_E sc (d + 1) 26 15 [x0, x1] ([.int a0, .ref a]) g mi mr Q = (tw_kd g a = 5 ∧ tw_E sc d 92 0 [some (.ref a), some (.int a0)] [] g mi mr (tw_K sc (d + 1) 26 18 [x0, x1] [] Q)) := tw_x_cv (as := [.int a0]) (r := []) td_26_15 to_26 tc_0_203 to_92 rfl rfl rfl rfl
theorem td_26_18 : decode (tw_cd 26) 18 = .ok (.ifCond .eq 7, 3) := by decide +kernel
theorem tz_26_18 : tw_E sc d 26 18 [x0, x1] (.int v :: st) g mi mr Q = if v = 0 then tw_E sc d 26 25 [x0, x1] st g mi mr Q else tw_E sc d 26 21 [x0, x1] st g mi mr Q := tw_x_if_eq td_26_18 (by decide)
theorem td_26_21 : decode (tw_cd 26) 21 = .ok (.iconst 0, 1) := by decide +kernel
theorem tz_26_21 : tw_E sc d 26 21 [x0, x1] st g mi mr Q = tw_E sc d 26 22 [x0, x1] (.int 0 :: st) g mi mr Q := tw_x_iconst td_26_21 (by decide)
theorem td_26_22 : decode (tw_cd 26) 22 = .ok (.goto 5, 3) := by decide +kernel
theorem tz_26_22 : tw_E sc d 26 22 [x0, x1] st g mi mr Q = tw_E sc d 26 27 [x0, x1] st g mi mr Q := tw_x_goto td_26_22 (by decide)
theorem td_26_25 : decode (tw_cd 26) 25 = .ok (.bipush (-4), 2) := by decide +kernel
theorem tz_26_25 : tw_E sc d 26 25 [x0, x1] st g mi mr Q = tw_E sc d 26 27 [x0, x1] (.int (-4) :: st) g mi mr Q := tw_x_bipush td_26_25 (by decide)
theorem td_26_27 : decode (tw_cd 26) 27 = .ok (.ireturn, 1) := by decide +kernel
theorem tz_26_27 : tw_E sc d 26 27 [x0, x1] ([.int v]) g mi mr Q = Q (some (.int v)) g mi mr := tw_x_iret td_26_27 tr_26
end tz_26
