/-! a row for each instruction: printed by wip/whole/gen3.py -/
-- 59: Ta_append
section tz_59
variable {sc : Nat × (Nat → Int32)} {d : Nat} {x0 x1 x2 x3 x4 : Option Value} {st : List Value} {g : tw_G} {mi : tw_I} {mr : tw_Q} {Q : Option Value → tw_G → tw_I → tw_Q → Prop} {v w u : Int32} {a b : Nat} {j h : Int64} {s1 s2 s3 s4 : Value}
theorem td_59_0 : decode (tw_cd 59) 0 = .ok (.lload_n 1, 1) := by decide +kernel
theorem tz_59_0 : tw_E sc d 59 0 [x0, some (.long j), x2, x3, x4] st g mi mr Q = tw_E sc d 59 1 [x0, some (.long j), x2, x3, x4] (.long j :: st) g mi mr Q := tw_x_lload_n td_59_0 rfl
theorem td_59_1 : decode (tw_cd 59) 1 = .ok (.invokestatic 15, 3) := by decide +kernel
theorem tz_59_1 {a0 : Int64} : tw_E sc (d + 1) 59 1 [x0, x1, x2, x3, x4] ([.long a0]) g mi mr Q = tw_E sc d 64 0 [some (.long a0), none, none] [] g mi mr (tw_K sc (d + 1) 59 4 [x0, x1, x2, x3, x4] [] Q) := tw_x_cs (as := [.long a0]) (r := []) td_59_1 to_59 tmn_3_15 tc_3_15 rfl rfl rfl rfl rfl
theorem td_59_4 : decode (tw_cd 59) 4 = .ok (.istore_n 3, 1) := by decide +kernel
theorem tz_59_4 : tw_E sc d 59 4 [x0, x1, x2, x3, x4] (.int v :: st) g mi mr Q = tw_E sc d 59 5 [x0, x1, x2, some (.int v), x4] st g mi mr Q := tw_x_istore_n td_59_4 tp_59 rfl
theorem td_59_5 : decode (tw_cd 59) 5 = .ok (.iload_n 3, 1) := by decide +kernel
theorem tz_59_5 : tw_E sc d 59 5 [x0, x1, x2, some (.int v), x4] st g mi mr Q = tw_E sc d 59 6 [x0, x1, x2, some (.int v), x4] (.int v :: st) g mi mr Q := tw_x_iload_n td_59_5 rfl
theorem td_59_6 : decode (tw_cd 59) 6 = .ok (.bipush 60, 2) := by decide +kernel
theorem tz_59_6 : tw_E sc d 59 6 [x0, x1, x2, x3, x4] st g mi mr Q = tw_E sc d 59 8 [x0, x1, x2, x3, x4] (.int 60 :: st) g mi mr Q := tw_x_bipush td_59_6 (by decide)
theorem td_59_8 : decode (tw_cd 59) 8 = .ok (.aload_n 0, 1) := by decide +kernel
theorem tz_59_8 : tw_E sc d 59 8 [some (.ref a), x1, x2, x3, x4] st g mi mr Q = tw_E sc d 59 9 [some (.ref a), x1, x2, x3, x4] (.ref a :: st) g mi mr Q := tw_x_aload_n td_59_8 rfl
theorem td_59_9 : decode (tw_cd 59) 9 = .ok (.getfield 19, 3) := by decide +kernel
theorem tz_59_9 : tw_E sc d 59 9 [x0, x1, x2, x3, x4] (.ref a :: st) g mi mr Q = (tw_kd g a = 3 ∧ tw_E sc d 59 12 [x0, x1, x2, x3, x4] (.int (mi a 1) :: st) g mi mr Q) := tw_x_geti td_59_9 to_59 tf_3_19 (trf_3_1)
theorem td_59_12 : decode (tw_cd 59) 12 = .ok (.isub, 1) := by decide +kernel
theorem tz_59_12 : tw_E sc d 59 12 [x0, x1, x2, x3, x4] (.int w :: .int v :: st) g mi mr Q = tw_E sc d 59 13 [x0, x1, x2, x3, x4] (.int (v - w) :: st) g mi mr Q := tw_x_isub td_59_12
theorem td_59_13 : decode (tw_cd 59) 13 = .ok (.if_icmp .le 6, 3) := by decide +kernel
theorem tz_59_13 : tw_E sc d 59 13 [x0, x1, x2, x3, x4] (.int w :: .int v :: st) g mi mr Q = if v ≤ w then tw_E sc d 59 19 [x0, x1, x2, x3, x4] st g mi mr Q else tw_E sc d 59 16 [x0, x1, x2, x3, x4] st g mi mr Q := tw_x_ic_le td_59_13 (by decide)
theorem td_59_16 : decode (tw_cd 59) 16 = .ok (.bipush (-4), 2) := by decide +kernel
theorem tz_59_16 : tw_E sc d 59 16 [x0, x1, x2, x3, x4] st g mi mr Q = tw_E sc d 59 18 [x0, x1, x2, x3, x4] (.int (-4) :: st) g mi mr Q := tw_x_bipush td_59_16 (by decide)
theorem td_59_18 : decode (tw_cd 59) 18 = .ok (.ireturn, 1) := by decide +kernel
theorem tz_59_18 : tw_E sc d 59 18 [x0, x1, x2, x3, x4] ([.int v]) g mi mr Q = Q (some (.int v)) g mi mr := tw_x_iret td_59_18 tr_59
theorem td_59_19 : decode (tw_cd 59) 19 = .ok (.iconst 0, 1) := by decide +kernel
theorem tz_59_19 : tw_E sc d 59 19 [x0, x1, x2, x3, x4] st g mi mr Q = tw_E sc d 59 20 [x0, x1, x2, x3, x4] (.int 0 :: st) g mi mr Q := tw_x_iconst td_59_19 (by decide)
theorem td_59_20 : decode (tw_cd 59) 20 = .ok (.istore 4, 2) := by decide +kernel
theorem tz_59_20 : tw_E sc d 59 20 [x0, x1, x2, x3, x4] (.int v :: st) g mi mr Q = tw_E sc d 59 22 [x0, x1, x2, x3, some (.int v)] st g mi mr Q := tw_x_istore td_59_20 tp_59 rfl
theorem td_59_22 : decode (tw_cd 59) 22 = .ok (.iload 4, 2) := by decide +kernel
theorem tz_59_22 : tw_E sc d 59 22 [x0, x1, x2, x3, some (.int v)] st g mi mr Q = tw_E sc d 59 24 [x0, x1, x2, x3, some (.int v)] (.int v :: st) g mi mr Q := tw_x_iload td_59_22 rfl
theorem td_59_24 : decode (tw_cd 59) 24 = .ok (.iload_n 3, 1) := by decide +kernel
theorem tz_59_24 : tw_E sc d 59 24 [x0, x1, x2, some (.int v), x4] st g mi mr Q = tw_E sc d 59 25 [x0, x1, x2, some (.int v), x4] (.int v :: st) g mi mr Q := tw_x_iload_n td_59_24 rfl
theorem td_59_25 : decode (tw_cd 59) 25 = .ok (.if_icmp .ge 43, 3) := by decide +kernel
theorem tz_59_25 : tw_E sc d 59 25 [x0, x1, x2, x3, x4] (.int w :: .int v :: st) g mi mr Q = if w ≤ v then tw_E sc d 59 68 [x0, x1, x2, x3, x4] st g mi mr Q else tw_E sc d 59 28 [x0, x1, x2, x3, x4] st g mi mr Q := tw_x_ic_ge td_59_25 (by decide)
theorem td_59_28 : decode (tw_cd 59) 28 = .ok (.aload_n 0, 1) := by decide +kernel
theorem tz_59_28 : tw_E sc d 59 28 [some (.ref a), x1, x2, x3, x4] st g mi mr Q = tw_E sc d 59 29 [some (.ref a), x1, x2, x3, x4] (.ref a :: st) g mi mr Q := tw_x_aload_n td_59_28 rfl
theorem td_59_29 : decode (tw_cd 59) 29 = .ok (.getfield 19, 3) := by decide +kernel
theorem tz_59_29 : tw_E sc d 59 29 [x0, x1, x2, x3, x4] (.ref a :: st) g mi mr Q = (tw_kd g a = 3 ∧ tw_E sc d 59 32 [x0, x1, x2, x3, x4] (.int (mi a 1) :: st) g mi mr Q) := tw_x_geti td_59_29 to_59 tf_3_19 (trf_3_1)
theorem td_59_32 : decode (tw_cd 59) 32 = .ok (.bipush 60, 2) := by decide +kernel
theorem tz_59_32 : tw_E sc d 59 32 [x0, x1, x2, x3, x4] st g mi mr Q = tw_E sc d 59 34 [x0, x1, x2, x3, x4] (.int 60 :: st) g mi mr Q := tw_x_bipush td_59_32 (by decide)
theorem td_59_34 : decode (tw_cd 59) 34 = .ok (.if_icmp .ge 34, 3) := by decide +kernel
theorem tz_59_34 : tw_E sc d 59 34 [x0, x1, x2, x3, x4] (.int w :: .int v :: st) g mi mr Q = if w ≤ v then tw_E sc d 59 68 [x0, x1, x2, x3, x4] st g mi mr Q else tw_E sc d 59 37 [x0, x1, x2, x3, x4] st g mi mr Q := tw_x_ic_ge td_59_34 (by decide)
theorem td_59_37 : decode (tw_cd 59) 37 = .ok (.aload_n 0, 1) := by decide +kernel
theorem tz_59_37 : tw_E sc d 59 37 [some (.ref a), x1, x2, x3, x4] st g mi mr Q = tw_E sc d 59 38 [some (.ref a), x1, x2, x3, x4] (.ref a :: st) g mi mr Q := tw_x_aload_n td_59_37 rfl
theorem td_59_38 : decode (tw_cd 59) 38 = .ok (.getfield 9, 3) := by decide +kernel
theorem tz_59_38 : tw_E sc d 59 38 [x0, x1, x2, x3, x4] (.ref a :: st) g mi mr Q = (tw_kd g a = 3 ∧ tw_E sc d 59 41 [x0, x1, x2, x3, x4] (va_rf (mr a 0) :: st) g mi mr Q) := tw_x_getr td_59_38 to_59 tf_3_9 (trf_3_0)
theorem td_59_41 : decode (tw_cd 59) 41 = .ok (.aload_n 0, 1) := by decide +kernel
theorem tz_59_41 : tw_E sc d 59 41 [some (.ref a), x1, x2, x3, x4] st g mi mr Q = tw_E sc d 59 42 [some (.ref a), x1, x2, x3, x4] (.ref a :: st) g mi mr Q := tw_x_aload_n td_59_41 rfl
theorem td_59_42 : decode (tw_cd 59) 42 = .ok (.getfield 19, 3) := by decide +kernel
theorem tz_59_42 : tw_E sc d 59 42 [x0, x1, x2, x3, x4] (.ref a :: st) g mi mr Q = (tw_kd g a = 3 ∧ tw_E sc d 59 45 [x0, x1, x2, x3, x4] (.int (mi a 1) :: st) g mi mr Q) := tw_x_geti td_59_42 to_59 tf_3_19 (trf_3_1)
theorem td_59_45 : decode (tw_cd 59) 45 = .ok (.lload_n 1, 1) := by decide +kernel
theorem tz_59_45 : tw_E sc d 59 45 [x0, some (.long j), x2, x3, x4] st g mi mr Q = tw_E sc d 59 46 [x0, some (.long j), x2, x3, x4] (.long j :: st) g mi mr Q := tw_x_lload_n td_59_45 rfl
theorem td_59_46 : decode (tw_cd 59) 46 = .ok (.iload 4, 2) := by decide +kernel
theorem tz_59_46 : tw_E sc d 59 46 [x0, x1, x2, x3, some (.int v)] st g mi mr Q = tw_E sc d 59 48 [x0, x1, x2, x3, some (.int v)] (.int v :: st) g mi mr Q := tw_x_iload td_59_46 rfl
theorem td_59_48 : decode (tw_cd 59) 48 = .ok (.invokestatic 23, 3) := by decide +kernel
theorem tz_59_48 {a0 : Int64} {a1 : Int32} : tw_E sc (d + 1) 59 48 [x0, x1, x2, x3, x4] ([.int a1, .long a0, s1, s2]) g mi mr Q = tw_E sc d 65 0 [some (.long a0), none, some (.int a1)] [] g mi mr (tw_K sc (d + 1) 59 51 [x0, x1, x2, x3, x4] [s1, s2] Q) := tw_x_cs (as := [.long a0, .int a1]) (r := [s1, s2]) td_59_48 to_59 tmn_3_23 tc_3_23 rfl rfl rfl rfl rfl
theorem td_59_51 : decode (tw_cd 59) 51 = .ok (.iastore, 1) := by decide +kernel
theorem tz_59_51 : tw_E sc d 59 51 [x0, x1, x2, x3, x4] (.int w :: .int v :: .ref a :: st) g mi mr Q = ((tw_kd g a = 20 ∧ vp_in v (tw_ln g a)) ∧ tw_E sc d 59 52 [x0, x1, x2, x3, x4] st g (tw_st mi a (tw_st (mi a) v.toNatClampNeg w)) mr Q) := tw_x_iast td_59_51
theorem td_59_52 : decode (tw_cd 59) 52 = .ok (.aload_n 0, 1) := by decide +kernel
theorem tz_59_52 : tw_E sc d 59 52 [some (.ref a), x1, x2, x3, x4] st g mi mr Q = tw_E sc d 59 53 [some (.ref a), x1, x2, x3, x4] (.ref a :: st) g mi mr Q := tw_x_aload_n td_59_52 rfl
theorem td_59_53 : decode (tw_cd 59) 53 = .ok (.dup, 1) := by decide +kernel
theorem tz_59_53 : tw_E sc d 59 53 [x0, x1, x2, x3, x4] (.ref a :: st) g mi mr Q = tw_E sc d 59 54 [x0, x1, x2, x3, x4] (.ref a :: .ref a :: st) g mi mr Q := tw_x_dup_ref td_59_53
theorem td_59_54 : decode (tw_cd 59) 54 = .ok (.getfield 19, 3) := by decide +kernel
theorem tz_59_54 : tw_E sc d 59 54 [x0, x1, x2, x3, x4] (.ref a :: st) g mi mr Q = (tw_kd g a = 3 ∧ tw_E sc d 59 57 [x0, x1, x2, x3, x4] (.int (mi a 1) :: st) g mi mr Q) := tw_x_geti td_59_54 to_59 tf_3_19 (trf_3_1)
theorem td_59_57 : decode (tw_cd 59) 57 = .ok (.iconst 1, 1) := by decide +kernel
theorem tz_59_57 : tw_E sc d 59 57 [x0, x1, x2, x3, x4] st g mi mr Q = tw_E sc d 59 58 [x0, x1, x2, x3, x4] (.int 1 :: st) g mi mr Q := tw_x_iconst td_59_57 (by decide)
theorem td_59_58 : decode (tw_cd 59) 58 = .ok (.iadd, 1) := by decide +kernel
theorem tz_59_58 : tw_E sc d 59 58 [x0, x1, x2, x3, x4] (.int w :: .int v :: st) g mi mr Q = tw_E sc d 59 59 [x0, x1, x2, x3, x4] (.int (v + w) :: st) g mi mr Q := tw_x_iadd td_59_58
theorem td_59_59 : decode (tw_cd 59) 59 = .ok (.putfield 19, 3) := by decide +kernel
theorem tz_59_59 : tw_E sc d 59 59 [x0, x1, x2, x3, x4] (.int v :: .ref a :: st) g mi mr Q = (tw_kd g a = 3 ∧ tw_E sc d 59 62 [x0, x1, x2, x3, x4] st g (tw_st mi a (tw_st (mi a) 1 v)) mr Q) := tw_x_puti td_59_59 to_59 tf_3_19 rfl rfl
theorem td_59_62 : decode (tw_cd 59) 62 = .ok (.iinc 4 1, 3) := by decide +kernel
theorem tz_59_62 : tw_E sc d 59 62 [x0, x1, x2, x3, some (.int v)] st g mi mr Q = tw_E sc d 59 65 [x0, x1, x2, x3, some (.int (v + 1))] st g mi mr Q := tw_x_iinc td_59_62 rfl (by first | rfl | (exact congrArg (v + ·) (by decide))) tp_59 rfl
theorem td_59_65 : decode (tw_cd 59) 65 = .ok (.goto (-43), 3) := by decide +kernel
theorem tz_59_65 : tw_E sc d 59 65 [x0, x1, x2, x3, x4] st g mi mr Q = tw_E sc d 59 22 [x0, x1, x2, x3, x4] st g mi mr Q := tw_x_goto td_59_65 (by decide)
theorem td_59_68 : decode (tw_cd 59) 68 = .ok (.aload_n 0, 1) := by decide +kernel
theorem tz_59_68 : tw_E sc d 59 68 [some (.ref a), x1, x2, x3, x4] st g mi mr Q = tw_E sc d 59 69 [some (.ref a), x1, x2, x3, x4] (.ref a :: st) g mi mr Q := tw_x_aload_n td_59_68 rfl
theorem td_59_69 : decode (tw_cd 59) 69 = .ok (.getfield 19, 3) := by decide +kernel
theorem tz_59_69 : tw_E sc d 59 69 [x0, x1, x2, x3, x4] (.ref a :: st) g mi mr Q = (tw_kd g a = 3 ∧ tw_E sc d 59 72 [x0, x1, x2, x3, x4] (.int (mi a 1) :: st) g mi mr Q) := tw_x_geti td_59_69 to_59 tf_3_19 (trf_3_1)
theorem td_59_72 : decode (tw_cd 59) 72 = .ok (.ireturn, 1) := by decide +kernel
theorem tz_59_72 : tw_E sc d 59 72 [x0, x1, x2, x3, x4] ([.int v]) g mi mr Q = Q (some (.int v)) g mi mr := tw_x_iret td_59_72 tr_59
end tz_59
-- 60: Ta_clear
section tz_60
variable {sc : Nat × (Nat → Int32)} {d : Nat} {x0 : Option Value} {st : List Value} {g : tw_G} {mi : tw_I} {mr : tw_Q} {Q : Option Value → tw_G → tw_I → tw_Q → Prop} {v w u : Int32} {a b : Nat} {j h : Int64} {s1 s2 s3 s4 : Value}
theorem td_60_0 : decode (tw_cd 60) 0 = .ok (.aload_n 0, 1) := by decide +kernel
theorem tz_60_0 : tw_E sc d 60 0 [some (.ref a)] st g mi mr Q = tw_E sc d 60 1 [some (.ref a)] (.ref a :: st) g mi mr Q := tw_x_aload_n td_60_0 rfl
theorem td_60_1 : decode (tw_cd 60) 1 = .ok (.iconst 0, 1) := by decide +kernel
theorem tz_60_1 : tw_E sc d 60 1 [x0] st g mi mr Q = tw_E sc d 60 2 [x0] (.int 0 :: st) g mi mr Q := tw_x_iconst td_60_1 (by decide)
theorem td_60_2 : decode (tw_cd 60) 2 = .ok (.putfield 19, 3) := by decide +kernel
theorem tz_60_2 : tw_E sc d 60 2 [x0] (.int v :: .ref a :: st) g mi mr Q = (tw_kd g a = 3 ∧ tw_E sc d 60 5 [x0] st g (tw_st mi a (tw_st (mi a) 1 v)) mr Q) := tw_x_puti td_60_2 to_60 tf_3_19 rfl rfl
theorem td_60_5 : decode (tw_cd 60) 5 = .ok (.return_, 1) := by decide +kernel
theorem tz_60_5 : tw_E sc d 60 5 [x0] [] g mi mr Q = Q none g mi mr := tw_x_vret td_60_5 tr_60
end tz_60
-- 61: Ta_size
section tz_61
variable {sc : Nat × (Nat → Int32)} {d : Nat} {x0 : Option Value} {st : List Value} {g : tw_G} {mi : tw_I} {mr : tw_Q} {Q : Option Value → tw_G → tw_I → tw_Q → Prop} {v w u : Int32} {a b : Nat} {j h : Int64} {s1 s2 s3 s4 : Value}
theorem td_61_0 : decode (tw_cd 61) 0 = .ok (.aload_n 0, 1) := by decide +kernel
theorem tz_61_0 : tw_E sc d 61 0 [some (.ref a)] st g mi mr Q = tw_E sc d 61 1 [some (.ref a)] (.ref a :: st) g mi mr Q := tw_x_aload_n td_61_0 rfl
theorem td_61_1 : decode (tw_cd 61) 1 = .ok (.getfield 19, 3) := by decide +kernel
theorem tz_61_1 : tw_E sc d 61 1 [x0] (.ref a :: st) g mi mr Q = (tw_kd g a = 3 ∧ tw_E sc d 61 4 [x0] (.int (mi a 1) :: st) g mi mr Q) := tw_x_geti td_61_1 to_61 tf_3_19 (trf_3_1)
theorem td_61_4 : decode (tw_cd 61) 4 = .ok (.ireturn, 1) := by decide +kernel
theorem tz_61_4 : tw_E sc d 61 4 [x0] ([.int v]) g mi mr Q = Q (some (.int v)) g mi mr := tw_x_iret td_61_4 tr_61
end tz_61
-- 62: Ta_signAt
section tz_62
variable {sc : Nat × (Nat → Int32)} {d : Nat} {x0 x1 : Option Value} {st : List Value} {g : tw_G} {mi : tw_I} {mr : tw_Q} {Q : Option Value → tw_G → tw_I → tw_Q → Prop} {v w u : Int32} {a b : Nat} {j h : Int64} {s1 s2 s3 s4 : Value}
theorem td_62_0 : decode (tw_cd 62) 0 = .ok (.iload_n 1, 1) := by decide +kernel
theorem tz_62_0 : tw_E sc d 62 0 [x0, some (.int v)] st g mi mr Q = tw_E sc d 62 1 [x0, some (.int v)] (.int v :: st) g mi mr Q := tw_x_iload_n td_62_0 rfl
theorem td_62_1 : decode (tw_cd 62) 1 = .ok (.ifCond .lt 20, 3) := by decide +kernel
theorem tz_62_1 : tw_E sc d 62 1 [x0, x1] (.int v :: st) g mi mr Q = if v < 0 then tw_E sc d 62 21 [x0, x1] st g mi mr Q else tw_E sc d 62 4 [x0, x1] st g mi mr Q := tw_x_if_lt td_62_1 (by decide)
theorem td_62_4 : decode (tw_cd 62) 4 = .ok (.iload_n 1, 1) := by decide +kernel
theorem tz_62_4 : tw_E sc d 62 4 [x0, some (.int v)] st g mi mr Q = tw_E sc d 62 5 [x0, some (.int v)] (.int v :: st) g mi mr Q := tw_x_iload_n td_62_4 rfl
theorem td_62_5 : decode (tw_cd 62) 5 = .ok (.aload_n 0, 1) := by decide +kernel
theorem tz_62_5 : tw_E sc d 62 5 [some (.ref a), x1] st g mi mr Q = tw_E sc d 62 6 [some (.ref a), x1] (.ref a :: st) g mi mr Q := tw_x_aload_n td_62_5 rfl
theorem td_62_6 : decode (tw_cd 62) 6 = .ok (.getfield 19, 3) := by decide +kernel
theorem tz_62_6 : tw_E sc d 62 6 [x0, x1] (.ref a :: st) g mi mr Q = (tw_kd g a = 3 ∧ tw_E sc d 62 9 [x0, x1] (.int (mi a 1) :: st) g mi mr Q) := tw_x_geti td_62_6 to_62 tf_3_19 (trf_3_1)
theorem td_62_9 : decode (tw_cd 62) 9 = .ok (.if_icmp .ge 12, 3) := by decide +kernel
theorem tz_62_9 : tw_E sc d 62 9 [x0, x1] (.int w :: .int v :: st) g mi mr Q = if w ≤ v then tw_E sc d 62 21 [x0, x1] st g mi mr Q else tw_E sc d 62 12 [x0, x1] st g mi mr Q := tw_x_ic_ge td_62_9 (by decide)
theorem td_62_12 : decode (tw_cd 62) 12 = .ok (.aload_n 0, 1) := by decide +kernel
theorem tz_62_12 : tw_E sc d 62 12 [some (.ref a), x1] st g mi mr Q = tw_E sc d 62 13 [some (.ref a), x1] (.ref a :: st) g mi mr Q := tw_x_aload_n td_62_12 rfl
theorem td_62_13 : decode (tw_cd 62) 13 = .ok (.getfield 9, 3) := by decide +kernel
theorem tz_62_13 : tw_E sc d 62 13 [x0, x1] (.ref a :: st) g mi mr Q = (tw_kd g a = 3 ∧ tw_E sc d 62 16 [x0, x1] (va_rf (mr a 0) :: st) g mi mr Q) := tw_x_getr td_62_13 to_62 tf_3_9 (trf_3_0)
theorem td_62_16 : decode (tw_cd 62) 16 = .ok (.iload_n 1, 1) := by decide +kernel
theorem tz_62_16 : tw_E sc d 62 16 [x0, some (.int v)] st g mi mr Q = tw_E sc d 62 17 [x0, some (.int v)] (.int v :: st) g mi mr Q := tw_x_iload_n td_62_16 rfl
theorem td_62_17 : decode (tw_cd 62) 17 = .ok (.iaload, 1) := by decide +kernel
theorem tz_62_17 : tw_E sc d 62 17 [x0, x1] (.int v :: .ref a :: st) g mi mr Q = ((tw_kd g a = 20 ∧ vp_in v (tw_ln g a)) ∧ tw_E sc d 62 18 [x0, x1] (.int (mi a v.toNatClampNeg) :: st) g mi mr Q) := tw_x_iald td_62_17
theorem td_62_18 : decode (tw_cd 62) 18 = .ok (.goto 6, 3) := by decide +kernel
theorem tz_62_18 : tw_E sc d 62 18 [x0, x1] st g mi mr Q = tw_E sc d 62 24 [x0, x1] st g mi mr Q := tw_x_goto td_62_18 (by decide)
theorem td_62_21 : decode (tw_cd 62) 21 = .ok (.sipush 257, 3) := by decide +kernel
theorem tz_62_21 : tw_E sc d 62 21 [x0, x1] st g mi mr Q = tw_E sc d 62 24 [x0, x1] (.int 257 :: st) g mi mr Q := tw_x_sipush td_62_21 (by decide)
theorem td_62_24 : decode (tw_cd 62) 24 = .ok (.ireturn, 1) := by decide +kernel
theorem tz_62_24 : tw_E sc d 62 24 [x0, x1] ([.int v]) g mi mr Q = Q (some (.int v)) g mi mr := tw_x_iret td_62_24 tr_62
end tz_62
-- 63: Ta_skipBlanks
section tz_63
variable {sc : Nat × (Nat → Int32)} {d : Nat} {x0 x1 x2 : Option Value} {st : List Value} {g : tw_G} {mi : tw_I} {mr : tw_Q} {Q : Option Value → tw_G → tw_I → tw_Q → Prop} {v w u : Int32} {a b : Nat} {j h : Int64} {s1 s2 s3 s4 : Value}
theorem td_63_0 : decode (tw_cd 63) 0 = .ok (.iload_n 1, 1) := by decide +kernel
theorem tz_63_0 : tw_E sc d 63 0 [x0, some (.int v), x2] st g mi mr Q = tw_E sc d 63 1 [x0, some (.int v), x2] (.int v :: st) g mi mr Q := tw_x_iload_n td_63_0 rfl
theorem td_63_1 : decode (tw_cd 63) 1 = .ok (.istore_n 2, 1) := by decide +kernel
theorem tz_63_1 : tw_E sc d 63 1 [x0, x1, x2] (.int v :: st) g mi mr Q = tw_E sc d 63 2 [x0, x1, some (.int v)] st g mi mr Q := tw_x_istore_n td_63_1 tp_63 rfl
theorem td_63_2 : decode (tw_cd 63) 2 = .ok (.iload_n 2, 1) := by decide +kernel
theorem tz_63_2 : tw_E sc d 63 2 [x0, x1, some (.int v)] st g mi mr Q = tw_E sc d 63 3 [x0, x1, some (.int v)] (.int v :: st) g mi mr Q := tw_x_iload_n td_63_2 rfl
theorem td_63_3 : decode (tw_cd 63) 3 = .ok (.aload_n 0, 1) := by decide +kernel
theorem tz_63_3 : tw_E sc d 63 3 [some (.ref a), x1, x2] st g mi mr Q = tw_E sc d 63 4 [some (.ref a), x1, x2] (.ref a :: st) g mi mr Q := tw_x_aload_n td_63_3 rfl
theorem td_63_4 : decode (tw_cd 63) 4 = .ok (.getfield 19, 3) := by decide +kernel
theorem tz_63_4 : tw_E sc d 63 4 [x0, x1, x2] (.ref a :: st) g mi mr Q = (tw_kd g a = 3 ∧ tw_E sc d 63 7 [x0, x1, x2] (.int (mi a 1) :: st) g mi mr Q) := tw_x_geti td_63_4 to_63 tf_3_19 (trf_3_1)
theorem td_63_7 : decode (tw_cd 63) 7 = .ok (.if_icmp .ge 19, 3) := by decide +kernel
theorem tz_63_7 : tw_E sc d 63 7 [x0, x1, x2] (.int w :: .int v :: st) g mi mr Q = if w ≤ v then tw_E sc d 63 26 [x0, x1, x2] st g mi mr Q else tw_E sc d 63 10 [x0, x1, x2] st g mi mr Q := tw_x_ic_ge td_63_7 (by decide)
theorem td_63_10 : decode (tw_cd 63) 10 = .ok (.aload_n 0, 1) := by decide +kernel
theorem tz_63_10 : tw_E sc d 63 10 [some (.ref a), x1, x2] st g mi mr Q = tw_E sc d 63 11 [some (.ref a), x1, x2] (.ref a :: st) g mi mr Q := tw_x_aload_n td_63_10 rfl
theorem td_63_11 : decode (tw_cd 63) 11 = .ok (.iload_n 2, 1) := by decide +kernel
theorem tz_63_11 : tw_E sc d 63 11 [x0, x1, some (.int v)] st g mi mr Q = tw_E sc d 63 12 [x0, x1, some (.int v)] (.int v :: st) g mi mr Q := tw_x_iload_n td_63_11 rfl
theorem td_63_12 : decode (tw_cd 63) 12 = .ok (.invokevirtual 27, 3) := by decide +kernel
theorem tz_63_12 {a0 : Int32} : tw_E sc (d + 1) 63 12 [x0, x1, x2] ([.int a0, .ref a]) g mi mr Q = (tw_kd g a = 3 ∧ tw_E sc d 62 0 [some (.ref a), some (.int a0)] [] g mi mr (tw_K sc (d + 1) 63 15 [x0, x1, x2] [] Q)) := tw_x_cv (as := [.int a0]) (r := []) td_63_12 to_63 tc_3_27 to_62 rfl rfl rfl rfl
theorem td_63_15 : decode (tw_cd 63) 15 = .ok (.bipush 32, 2) := by decide +kernel
theorem tz_63_15 : tw_E sc d 63 15 [x0, x1, x2] st g mi mr Q = tw_E sc d 63 17 [x0, x1, x2] (.int 32 :: st) g mi mr Q := tw_x_bipush td_63_15 (by decide)
theorem td_63_17 : decode (tw_cd 63) 17 = .ok (.if_icmp .ne 9, 3) := by decide +kernel
theorem tz_63_17 : tw_E sc d 63 17 [x0, x1, x2] (.int w :: .int v :: st) g mi mr Q = if ¬ v = w then tw_E sc d 63 26 [x0, x1, x2] st g mi mr Q else tw_E sc d 63 20 [x0, x1, x2] st g mi mr Q := tw_x_ic_ne td_63_17 (by decide)
theorem td_63_20 : decode (tw_cd 63) 20 = .ok (.iinc 2 1, 3) := by decide +kernel
theorem tz_63_20 : tw_E sc d 63 20 [x0, x1, some (.int v)] st g mi mr Q = tw_E sc d 63 23 [x0, x1, some (.int (v + 1))] st g mi mr Q := tw_x_iinc td_63_20 rfl (by first | rfl | (exact congrArg (v + ·) (by decide))) tp_63 rfl
theorem td_63_23 : decode (tw_cd 63) 23 = .ok (.goto (-21), 3) := by decide +kernel
theorem tz_63_23 : tw_E sc d 63 23 [x0, x1, x2] st g mi mr Q = tw_E sc d 63 2 [x0, x1, x2] st g mi mr Q := tw_x_goto td_63_23 (by decide)
theorem td_63_26 : decode (tw_cd 63) 26 = .ok (.iload_n 2, 1) := by decide +kernel
theorem tz_63_26 : tw_E sc d 63 26 [x0, x1, some (.int v)] st g mi mr Q = tw_E sc d 63 27 [x0, x1, some (.int v)] (.int v :: st) g mi mr Q := tw_x_iload_n td_63_26 rfl
theorem td_63_27 : decode (tw_cd 63) 27 = .ok (.ireturn, 1) := by decide +kernel
theorem tz_63_27 : tw_E sc d 63 27 [x0, x1, x2] ([.int v]) g mi mr Q = Q (some (.int v)) g mi mr := tw_x_iret td_63_27 tr_63
end tz_63
-- 64: Ta_countBytes
section tz_64
variable {sc : Nat × (Nat → Int32)} {d : Nat} {x0 x1 x2 : Option Value} {st : List Value} {g : tw_G} {mi : tw_I} {mr : tw_Q} {Q : Option Value → tw_G → tw_I → tw_Q → Prop} {v w u : Int32} {a b : Nat} {j h : Int64} {s1 s2 s3 s4 : Value}
theorem td_64_0 : decode (tw_cd 64) 0 = .ok (.iconst 0, 1) := by decide +kernel
theorem tz_64_0 : tw_E sc d 64 0 [x0, x1, x2] st g mi mr Q = tw_E sc d 64 1 [x0, x1, x2] (.int 0 :: st) g mi mr Q := tw_x_iconst td_64_0 (by decide)
theorem td_64_1 : decode (tw_cd 64) 1 = .ok (.istore_n 2, 1) := by decide +kernel
theorem tz_64_1 : tw_E sc d 64 1 [x0, x1, x2] (.int v :: st) g mi mr Q = tw_E sc d 64 2 [x0, x1, some (.int v)] st g mi mr Q := tw_x_istore_n td_64_1 tp_64 rfl
theorem td_64_2 : decode (tw_cd 64) 2 = .ok (.iload_n 2, 1) := by decide +kernel
theorem tz_64_2 : tw_E sc d 64 2 [x0, x1, some (.int v)] st g mi mr Q = tw_E sc d 64 3 [x0, x1, some (.int v)] (.int v :: st) g mi mr Q := tw_x_iload_n td_64_2 rfl
theorem td_64_3 : decode (tw_cd 64) 3 = .ok (.bipush 8, 2) := by decide +kernel
theorem tz_64_3 : tw_E sc d 64 3 [x0, x1, x2] st g mi mr Q = tw_E sc d 64 5 [x0, x1, x2] (.int 8 :: st) g mi mr Q := tw_x_bipush td_64_3 (by decide)
theorem td_64_5 : decode (tw_cd 64) 5 = .ok (.if_icmp .ge 17, 3) := by decide +kernel
theorem tz_64_5 : tw_E sc d 64 5 [x0, x1, x2] (.int w :: .int v :: st) g mi mr Q = if w ≤ v then tw_E sc d 64 22 [x0, x1, x2] st g mi mr Q else tw_E sc d 64 8 [x0, x1, x2] st g mi mr Q := tw_x_ic_ge td_64_5 (by decide)
theorem td_64_8 : decode (tw_cd 64) 8 = .ok (.lload_n 0, 1) := by decide +kernel
theorem tz_64_8 : tw_E sc d 64 8 [some (.long j), x1, x2] st g mi mr Q = tw_E sc d 64 9 [some (.long j), x1, x2] (.long j :: st) g mi mr Q := tw_x_lload_n td_64_8 rfl
theorem td_64_9 : decode (tw_cd 64) 9 = .ok (.iload_n 2, 1) := by decide +kernel
theorem tz_64_9 : tw_E sc d 64 9 [x0, x1, some (.int v)] st g mi mr Q = tw_E sc d 64 10 [x0, x1, some (.int v)] (.int v :: st) g mi mr Q := tw_x_iload_n td_64_9 rfl
theorem td_64_10 : decode (tw_cd 64) 10 = .ok (.invokestatic 23, 3) := by decide +kernel
theorem tz_64_10 {a0 : Int64} {a1 : Int32} : tw_E sc (d + 1) 64 10 [x0, x1, x2] ([.int a1, .long a0]) g mi mr Q = tw_E sc d 65 0 [some (.long a0), none, some (.int a1)] [] g mi mr (tw_K sc (d + 1) 64 13 [x0, x1, x2] [] Q) := tw_x_cs (as := [.long a0, .int a1]) (r := []) td_64_10 to_64 tmn_3_23 tc_3_23 rfl rfl rfl rfl rfl
theorem td_64_13 : decode (tw_cd 64) 13 = .ok (.ifCond .eq 9, 3) := by decide +kernel
theorem tz_64_13 : tw_E sc d 64 13 [x0, x1, x2] (.int v :: st) g mi mr Q = if v = 0 then tw_E sc d 64 22 [x0, x1, x2] st g mi mr Q else tw_E sc d 64 16 [x0, x1, x2] st g mi mr Q := tw_x_if_eq td_64_13 (by decide)
theorem td_64_16 : decode (tw_cd 64) 16 = .ok (.iinc 2 1, 3) := by decide +kernel
theorem tz_64_16 : tw_E sc d 64 16 [x0, x1, some (.int v)] st g mi mr Q = tw_E sc d 64 19 [x0, x1, some (.int (v + 1))] st g mi mr Q := tw_x_iinc td_64_16 rfl (by first | rfl | (exact congrArg (v + ·) (by decide))) tp_64 rfl
theorem td_64_19 : decode (tw_cd 64) 19 = .ok (.goto (-17), 3) := by decide +kernel
theorem tz_64_19 : tw_E sc d 64 19 [x0, x1, x2] st g mi mr Q = tw_E sc d 64 2 [x0, x1, x2] st g mi mr Q := tw_x_goto td_64_19 (by decide)
theorem td_64_22 : decode (tw_cd 64) 22 = .ok (.iload_n 2, 1) := by decide +kernel
theorem tz_64_22 : tw_E sc d 64 22 [x0, x1, some (.int v)] st g mi mr Q = tw_E sc d 64 23 [x0, x1, some (.int v)] (.int v :: st) g mi mr Q := tw_x_iload_n td_64_22 rfl
theorem td_64_23 : decode (tw_cd 64) 23 = .ok (.ireturn, 1) := by decide +kernel
theorem tz_64_23 : tw_E sc d 64 23 [x0, x1, x2] ([.int v]) g mi mr Q = Q (some (.int v)) g mi mr := tw_x_iret td_64_23 tr_64
end tz_64
-- 65: Ta_byteOf
section tz_65
variable {sc : Nat × (Nat → Int32)} {d : Nat} {x0 x1 x2 : Option Value} {st : List Value} {g : tw_G} {mi : tw_I} {mr : tw_Q} {Q : Option Value → tw_G → tw_I → tw_Q → Prop} {v w u : Int32} {a b : Nat} {j h : Int64} {s1 s2 s3 s4 : Value}
theorem td_65_0 : decode (tw_cd 65) 0 = .ok (.lload_n 0, 1) := by decide +kernel
theorem tz_65_0 : tw_E sc d 65 0 [some (.long j), x1, x2] st g mi mr Q = tw_E sc d 65 1 [some (.long j), x1, x2] (.long j :: st) g mi mr Q := tw_x_lload_n td_65_0 rfl
theorem td_65_1 : decode (tw_cd 65) 1 = .ok (.bipush 8, 2) := by decide +kernel
theorem tz_65_1 : tw_E sc d 65 1 [x0, x1, x2] st g mi mr Q = tw_E sc d 65 3 [x0, x1, x2] (.int 8 :: st) g mi mr Q := tw_x_bipush td_65_1 (by decide)
theorem td_65_3 : decode (tw_cd 65) 3 = .ok (.iload_n 2, 1) := by decide +kernel
theorem tz_65_3 : tw_E sc d 65 3 [x0, x1, some (.int v)] st g mi mr Q = tw_E sc d 65 4 [x0, x1, some (.int v)] (.int v :: st) g mi mr Q := tw_x_iload_n td_65_3 rfl
theorem td_65_4 : decode (tw_cd 65) 4 = .ok (.imul, 1) := by decide +kernel
theorem tz_65_4 : tw_E sc d 65 4 [x0, x1, x2] (.int w :: .int v :: st) g mi mr Q = tw_E sc d 65 5 [x0, x1, x2] (.int (v * w) :: st) g mi mr Q := tw_x_imul td_65_4
theorem td_65_5 : decode (tw_cd 65) 5 = .ok (.lushr, 1) := by decide +kernel
theorem tz_65_5 : tw_E sc d 65 5 [x0, x1, x2] (.int w :: .long j :: st) g mi mr Q = tw_E sc d 65 6 [x0, x1, x2] (.long ((j.toUInt64 >>> (w.toInt64.toUInt64 &&& Int64.toUInt64 63)).toInt64) :: st) g mi mr Q := tw_x_lushr td_65_5
theorem td_65_6 : decode (tw_cd 65) 6 = .ok (.l2i, 1) := by decide +kernel
theorem tz_65_6 : tw_E sc d 65 6 [x0, x1, x2] (.long j :: st) g mi mr Q = tw_E sc d 65 7 [x0, x1, x2] (.int j.toInt32 :: st) g mi mr Q := tw_x_l2i td_65_6
theorem td_65_7 : decode (tw_cd 65) 7 = .ok (.sipush 255, 3) := by decide +kernel
theorem tz_65_7 : tw_E sc d 65 7 [x0, x1, x2] st g mi mr Q = tw_E sc d 65 10 [x0, x1, x2] (.int 255 :: st) g mi mr Q := tw_x_sipush td_65_7 (by decide)
theorem td_65_10 : decode (tw_cd 65) 10 = .ok (.iand, 1) := by decide +kernel
theorem tz_65_10 : tw_E sc d 65 10 [x0, x1, x2] (.int w :: .int v :: st) g mi mr Q = tw_E sc d 65 11 [x0, x1, x2] (.int (v &&& w) :: st) g mi mr Q := tw_x_iand td_65_10
theorem td_65_11 : decode (tw_cd 65) 11 = .ok (.ireturn, 1) := by decide +kernel
theorem tz_65_11 : tw_E sc d 65 11 [x0, x1, x2] ([.int v]) g mi mr Q = Q (some (.int v)) g mi mr := tw_x_iret td_65_11 tr_65
end tz_65
-- 66: Re_init
section tz_66
variable {sc : Nat × (Nat → Int32)} {d : Nat} {x0 x1 x2 : Option Value} {st : List Value} {g : tw_G} {mi : tw_I} {mr : tw_Q} {Q : Option Value → tw_G → tw_I → tw_Q → Prop} {v w u : Int32} {a b : Nat} {j h : Int64} {s1 s2 s3 s4 : Value}
theorem td_66_0 : decode (tw_cd 66) 0 = .ok (.aload_n 0, 1) := by decide +kernel
theorem tz_66_0 : tw_E sc d 66 0 [some (.ref a), x1, x2] st g mi mr Q = tw_E sc d 66 1 [some (.ref a), x1, x2] (.ref a :: st) g mi mr Q := tw_x_aload_n td_66_0 rfl
theorem td_66_1 : decode (tw_cd 66) 1 = .ok (.invokespecial 3, 3) := by decide +kernel
theorem tz_66_1 : tw_E sc (d + 1) 66 1 [x0, x1, x2] (.ref a :: []) g mi mr Q = tw_E sc (d + 1) 66 4 [x0, x1, x2] [] g mi mr Q := tw_x_obj td_66_1 to_66 toi_4 (by simp)
theorem td_66_4 : decode (tw_cd 66) 4 = .ok (.aload_n 0, 1) := by decide +kernel
theorem tz_66_4 : tw_E sc d 66 4 [some (.ref a), x1, x2] st g mi mr Q = tw_E sc d 66 5 [some (.ref a), x1, x2] (.ref a :: st) g mi mr Q := tw_x_aload_n td_66_4 rfl
theorem td_66_5 : decode (tw_cd 66) 5 = .ok (.bipush (-9), 2) := by decide +kernel
theorem tz_66_5 : tw_E sc d 66 5 [x0, x1, x2] st g mi mr Q = tw_E sc d 66 7 [x0, x1, x2] (.int (-9) :: st) g mi mr Q := tw_x_bipush td_66_5 (by decide)
theorem td_66_7 : decode (tw_cd 66) 7 = .ok (.putfield 9, 3) := by decide +kernel
theorem tz_66_7 : tw_E sc d 66 7 [x0, x1, x2] (.int v :: .ref a :: st) g mi mr Q = (tw_kd g a = 4 ∧ tw_E sc d 66 10 [x0, x1, x2] st g (tw_st mi a (tw_st (mi a) 6 v)) mr Q) := tw_x_puti td_66_7 to_66 tf_4_9 rfl rfl
theorem td_66_10 : decode (tw_cd 66) 10 = .ok (.aload_n 0, 1) := by decide +kernel
theorem tz_66_10 : tw_E sc d 66 10 [some (.ref a), x1, x2] st g mi mr Q = tw_E sc d 66 11 [some (.ref a), x1, x2] (.ref a :: st) g mi mr Q := tw_x_aload_n td_66_10 rfl
theorem td_66_11 : decode (tw_cd 66) 11 = .ok (.bipush (-9), 2) := by decide +kernel
theorem tz_66_11 : tw_E sc d 66 11 [x0, x1, x2] st g mi mr Q = tw_E sc d 66 13 [x0, x1, x2] (.int (-9) :: st) g mi mr Q := tw_x_bipush td_66_11 (by decide)
theorem td_66_13 : decode (tw_cd 66) 13 = .ok (.putfield 15, 3) := by decide +kernel
theorem tz_66_13 : tw_E sc d 66 13 [x0, x1, x2] (.int v :: .ref a :: st) g mi mr Q = (tw_kd g a = 4 ∧ tw_E sc d 66 16 [x0, x1, x2] st g (tw_st mi a (tw_st (mi a) 7 v)) mr Q) := tw_x_puti td_66_13 to_66 tf_4_15 rfl rfl
theorem td_66_16 : decode (tw_cd 66) 16 = .ok (.aload_n 0, 1) := by decide +kernel
theorem tz_66_16 : tw_E sc d 66 16 [some (.ref a), x1, x2] st g mi mr Q = tw_E sc d 66 17 [some (.ref a), x1, x2] (.ref a :: st) g mi mr Q := tw_x_aload_n td_66_16 rfl
theorem td_66_17 : decode (tw_cd 66) 17 = .ok (.aload_n 1, 1) := by decide +kernel
theorem tz_66_17 : tw_E sc d 66 17 [x0, some (.ref a), x2] st g mi mr Q = tw_E sc d 66 18 [x0, some (.ref a), x2] (.ref a :: st) g mi mr Q := tw_x_aload_n td_66_17 rfl
theorem tz_66_17n : tw_E sc d 66 17 [x0, some .null, x2] st g mi mr Q = tw_E sc d 66 18 [x0, some .null, x2] (.null :: st) g mi mr Q := tw_x_aload_nN td_66_17 rfl
theorem td_66_18 : decode (tw_cd 66) 18 = .ok (.putfield 18, 3) := by decide +kernel
theorem tz_66_18 : tw_E sc d 66 18 [x0, x1, x2] (.ref b :: .ref a :: st) g mi mr Q = (tw_kd g a = 4 ∧ tw_E sc d 66 21 [x0, x1, x2] st g mi (tw_st mr a (tw_st (mr a) 0 (some b))) Q) := tw_x_putr td_66_18 to_66 tf_4_18 (Or.inr ⟨rfl, rfl⟩) (trf_4_0)
theorem td_66_21 : decode (tw_cd 66) 21 = .ok (.aload_n 0, 1) := by decide +kernel
theorem tz_66_21 : tw_E sc d 66 21 [some (.ref a), x1, x2] st g mi mr Q = tw_E sc d 66 22 [some (.ref a), x1, x2] (.ref a :: st) g mi mr Q := tw_x_aload_n td_66_21 rfl
theorem td_66_22 : decode (tw_cd 66) 22 = .ok (.aload_n 2, 1) := by decide +kernel
theorem tz_66_22 : tw_E sc d 66 22 [x0, x1, some (.ref a)] st g mi mr Q = tw_E sc d 66 23 [x0, x1, some (.ref a)] (.ref a :: st) g mi mr Q := tw_x_aload_n td_66_22 rfl
theorem tz_66_22n : tw_E sc d 66 22 [x0, x1, some .null] st g mi mr Q = tw_E sc d 66 23 [x0, x1, some .null] (.null :: st) g mi mr Q := tw_x_aload_nN td_66_22 rfl
theorem td_66_23 : decode (tw_cd 66) 23 = .ok (.putfield 22, 3) := by decide +kernel
theorem tz_66_23 : tw_E sc d 66 23 [x0, x1, x2] (.ref b :: .ref a :: st) g mi mr Q = (tw_kd g a = 4 ∧ tw_E sc d 66 26 [x0, x1, x2] st g mi (tw_st mr a (tw_st (mr a) 1 (some b))) Q) := tw_x_putr td_66_23 to_66 tf_4_22 (Or.inl rfl) (trf_4_1)
theorem td_66_26 : decode (tw_cd 66) 26 = .ok (.return_, 1) := by decide +kernel
theorem tz_66_26 : tw_E sc d 66 26 [x0, x1, x2] [] g mi mr Q = Q none g mi mr := tw_x_vret td_66_26 tr_66
end tz_66
-- 67: Re_readInto
section tz_67
variable {sc : Nat × (Nat → Int32)} {d : Nat} {x0 x1 x2 : Option Value} {st : List Value} {g : tw_G} {mi : tw_I} {mr : tw_Q} {Q : Option Value → tw_G → tw_I → tw_Q → Prop} {v w u : Int32} {a b : Nat} {j h : Int64} {s1 s2 s3 s4 : Value}
theorem td_67_0 : decode (tw_cd 67) 0 = .ok (.aload_n 0, 1) := by decide +kernel
theorem tz_67_0 : tw_E sc d 67 0 [some (.ref a), x1, x2] st g mi mr Q = tw_E sc d 67 1 [some (.ref a), x1, x2] (.ref a :: st) g mi mr Q := tw_x_aload_n td_67_0 rfl
theorem td_67_1 : decode (tw_cd 67) 1 = .ok (.aload_n 1, 1) := by decide +kernel
theorem tz_67_1 : tw_E sc d 67 1 [x0, some (.ref a), x2] st g mi mr Q = tw_E sc d 67 2 [x0, some (.ref a), x2] (.ref a :: st) g mi mr Q := tw_x_aload_n td_67_1 rfl
theorem tz_67_1n : tw_E sc d 67 1 [x0, some .null, x2] st g mi mr Q = tw_E sc d 67 2 [x0, some .null, x2] (.null :: st) g mi mr Q := tw_x_aload_nN td_67_1 rfl
theorem td_67_2 : decode (tw_cd 67) 2 = .ok (.putfield 22, 3) := by decide +kernel
theorem tz_67_2 : tw_E sc d 67 2 [x0, x1, x2] (.ref b :: .ref a :: st) g mi mr Q = (tw_kd g a = 4 ∧ tw_E sc d 67 5 [x0, x1, x2] st g mi (tw_st mr a (tw_st (mr a) 1 (some b))) Q) := tw_x_putr td_67_2 to_67 tf_4_22 (Or.inl rfl) (trf_4_1)
theorem td_67_5 : decode (tw_cd 67) 5 = .ok (.aload_n 1, 1) := by decide +kernel
theorem tz_67_5 : tw_E sc d 67 5 [x0, some (.ref a), x2] st g mi mr Q = tw_E sc d 67 6 [x0, some (.ref a), x2] (.ref a :: st) g mi mr Q := tw_x_aload_n td_67_5 rfl
theorem tz_67_5n : tw_E sc d 67 5 [x0, some .null, x2] st g mi mr Q = tw_E sc d 67 6 [x0, some .null, x2] (.null :: st) g mi mr Q := tw_x_aload_nN td_67_5 rfl
theorem td_67_6 : decode (tw_cd 67) 6 = .ok (.invokevirtual 26, 3) := by decide +kernel
theorem tz_67_6 : tw_E sc (d + 1) 67 6 [x0, x1, x2] ([.ref a]) g mi mr Q = (tw_kd g a = 1 ∧ tw_E sc d 36 0 [some (.ref a)] [] g mi mr (tw_K sc (d + 1) 67 9 [x0, x1, x2] [] Q)) := tw_x_cv (as := []) (r := []) td_67_6 to_67 tc_4_26 to_36 rfl rfl rfl rfl
theorem td_67_9 : decode (tw_cd 67) 9 = .ok (.aload_n 0, 1) := by decide +kernel
theorem tz_67_9 : tw_E sc d 67 9 [some (.ref a), x1, x2] st g mi mr Q = tw_E sc d 67 10 [some (.ref a), x1, x2] (.ref a :: st) g mi mr Q := tw_x_aload_n td_67_9 rfl
theorem td_67_10 : decode (tw_cd 67) 10 = .ok (.bipush (-9), 2) := by decide +kernel
theorem tz_67_10 : tw_E sc d 67 10 [x0, x1, x2] st g mi mr Q = tw_E sc d 67 12 [x0, x1, x2] (.int (-9) :: st) g mi mr Q := tw_x_bipush td_67_10 (by decide)
theorem td_67_12 : decode (tw_cd 67) 12 = .ok (.putfield 9, 3) := by decide +kernel
theorem tz_67_12 : tw_E sc d 67 12 [x0, x1, x2] (.int v :: .ref a :: st) g mi mr Q = (tw_kd g a = 4 ∧ tw_E sc d 67 15 [x0, x1, x2] st g (tw_st mi a (tw_st (mi a) 6 v)) mr Q) := tw_x_puti td_67_12 to_67 tf_4_9 rfl rfl
theorem td_67_15 : decode (tw_cd 67) 15 = .ok (.aload_n 0, 1) := by decide +kernel
theorem tz_67_15 : tw_E sc d 67 15 [some (.ref a), x1, x2] st g mi mr Q = tw_E sc d 67 16 [some (.ref a), x1, x2] (.ref a :: st) g mi mr Q := tw_x_aload_n td_67_15 rfl
theorem td_67_16 : decode (tw_cd 67) 16 = .ok (.bipush (-9), 2) := by decide +kernel
theorem tz_67_16 : tw_E sc d 67 16 [x0, x1, x2] st g mi mr Q = tw_E sc d 67 18 [x0, x1, x2] (.int (-9) :: st) g mi mr Q := tw_x_bipush td_67_16 (by decide)
theorem td_67_18 : decode (tw_cd 67) 18 = .ok (.putfield 15, 3) := by decide +kernel
theorem tz_67_18 : tw_E sc d 67 18 [x0, x1, x2] (.int v :: .ref a :: st) g mi mr Q = (tw_kd g a = 4 ∧ tw_E sc d 67 21 [x0, x1, x2] st g (tw_st mi a (tw_st (mi a) 7 v)) mr Q) := tw_x_puti td_67_18 to_67 tf_4_15 rfl rfl
theorem td_67_21 : decode (tw_cd 67) 21 = .ok (.aload_n 0, 1) := by decide +kernel
theorem tz_67_21 : tw_E sc d 67 21 [some (.ref a), x1, x2] st g mi mr Q = tw_E sc d 67 22 [some (.ref a), x1, x2] (.ref a :: st) g mi mr Q := tw_x_aload_n td_67_21 rfl
theorem td_67_22 : decode (tw_cd 67) 22 = .ok (.iconst 0, 1) := by decide +kernel
theorem tz_67_22 : tw_E sc d 67 22 [x0, x1, x2] st g mi mr Q = tw_E sc d 67 23 [x0, x1, x2] (.int 0 :: st) g mi mr Q := tw_x_iconst td_67_22 (by decide)
theorem td_67_23 : decode (tw_cd 67) 23 = .ok (.putfield 31, 3) := by decide +kernel
theorem tz_67_23 : tw_E sc d 67 23 [x0, x1, x2] (.int v :: .ref a :: st) g mi mr Q = (tw_kd g a = 4 ∧ tw_E sc d 67 26 [x0, x1, x2] st g (tw_st mi a (tw_st (mi a) 5 v)) mr Q) := tw_x_puti td_67_23 to_67 tf_4_31 rfl rfl
theorem td_67_26 : decode (tw_cd 67) 26 = .ok (.aload_n 0, 1) := by decide +kernel
theorem tz_67_26 : tw_E sc d 67 26 [some (.ref a), x1, x2] st g mi mr Q = tw_E sc d 67 27 [some (.ref a), x1, x2] (.ref a :: st) g mi mr Q := tw_x_aload_n td_67_26 rfl
theorem td_67_27 : decode (tw_cd 67) 27 = .ok (.invokevirtual 34, 3) := by decide +kernel
theorem tz_67_27 : tw_E sc (d + 1) 67 27 [x0, x1, x2] ([.ref a]) g mi mr Q = (tw_kd g a = 4 ∧ tw_E sc d 83 0 [some (.ref a)] [] g mi mr (tw_K sc (d + 1) 67 30 [x0, x1, x2] [] Q)) := tw_x_cv (as := []) (r := []) td_67_27 to_67 tc_4_34 to_83 rfl rfl rfl rfl
theorem td_67_30 : decode (tw_cd 67) 30 = .ok (.aload_n 0, 1) := by decide +kernel
theorem tz_67_30 : tw_E sc d 67 30 [some (.ref a), x1, x2] st g mi mr Q = tw_E sc d 67 31 [some (.ref a), x1, x2] (.ref a :: st) g mi mr Q := tw_x_aload_n td_67_30 rfl
theorem td_67_31 : decode (tw_cd 67) 31 = .ok (.iconst 0, 1) := by decide +kernel
theorem tz_67_31 : tw_E sc d 67 31 [x0, x1, x2] st g mi mr Q = tw_E sc d 67 32 [x0, x1, x2] (.int 0 :: st) g mi mr Q := tw_x_iconst td_67_31 (by decide)
theorem td_67_32 : decode (tw_cd 67) 32 = .ok (.invokevirtual 37, 3) := by decide +kernel
theorem tz_67_32 {a0 : Int32} : tw_E sc (d + 1) 67 32 [x0, x1, x2] ([.int a0, .ref a]) g mi mr Q = (tw_kd g a = 4 ∧ tw_E sc d 70 0 [some (.ref a), some (.int a0), none, none] [] g mi mr (tw_K sc (d + 1) 67 35 [x0, x1, x2] [] Q)) := tw_x_cv (as := [.int a0]) (r := []) td_67_32 to_67 tc_4_37 to_70 rfl rfl rfl rfl
theorem td_67_35 : decode (tw_cd 67) 35 = .ok (.istore_n 2, 1) := by decide +kernel
theorem tz_67_35 : tw_E sc d 67 35 [x0, x1, x2] (.int v :: st) g mi mr Q = tw_E sc d 67 36 [x0, x1, some (.int v)] st g mi mr Q := tw_x_istore_n td_67_35 tp_67 rfl
theorem td_67_36 : decode (tw_cd 67) 36 = .ok (.iload_n 2, 1) := by decide +kernel
theorem tz_67_36 : tw_E sc d 67 36 [x0, x1, some (.int v)] st g mi mr Q = tw_E sc d 67 37 [x0, x1, some (.int v)] (.int v :: st) g mi mr Q := tw_x_iload_n td_67_36 rfl
theorem td_67_37 : decode (tw_cd 67) 37 = .ok (.ifCond .lt 18, 3) := by decide +kernel
theorem tz_67_37 : tw_E sc d 67 37 [x0, x1, x2] (.int v :: st) g mi mr Q = if v < 0 then tw_E sc d 67 55 [x0, x1, x2] st g mi mr Q else tw_E sc d 67 40 [x0, x1, x2] st g mi mr Q := tw_x_if_lt td_67_37 (by decide)
theorem td_67_40 : decode (tw_cd 67) 40 = .ok (.aload_n 0, 1) := by decide +kernel
theorem tz_67_40 : tw_E sc d 67 40 [some (.ref a), x1, x2] st g mi mr Q = tw_E sc d 67 41 [some (.ref a), x1, x2] (.ref a :: st) g mi mr Q := tw_x_aload_n td_67_40 rfl
theorem td_67_41 : decode (tw_cd 67) 41 = .ok (.getfield 41, 3) := by decide +kernel
theorem tz_67_41 : tw_E sc d 67 41 [x0, x1, x2] (.ref a :: st) g mi mr Q = (tw_kd g a = 4 ∧ tw_E sc d 67 44 [x0, x1, x2] (.int (mi a 2) :: st) g mi mr Q) := tw_x_geti td_67_41 to_67 tf_4_41 (trf_4_2)
theorem td_67_44 : decode (tw_cd 67) 44 = .ok (.sipush 257, 3) := by decide +kernel
theorem tz_67_44 : tw_E sc d 67 44 [x0, x1, x2] st g mi mr Q = tw_E sc d 67 47 [x0, x1, x2] (.int 257 :: st) g mi mr Q := tw_x_sipush td_67_44 (by decide)
theorem td_67_47 : decode (tw_cd 67) 47 = .ok (.if_icmp .eq 8, 3) := by decide +kernel
theorem tz_67_47 : tw_E sc d 67 47 [x0, x1, x2] (.int w :: .int v :: st) g mi mr Q = if v = w then tw_E sc d 67 55 [x0, x1, x2] st g mi mr Q else tw_E sc d 67 50 [x0, x1, x2] st g mi mr Q := tw_x_ic_eq td_67_47 (by decide)
theorem td_67_50 : decode (tw_cd 67) 50 = .ok (.aload_n 0, 1) := by decide +kernel
theorem tz_67_50 : tw_E sc d 67 50 [some (.ref a), x1, x2] st g mi mr Q = tw_E sc d 67 51 [some (.ref a), x1, x2] (.ref a :: st) g mi mr Q := tw_x_aload_n td_67_50 rfl
theorem td_67_51 : decode (tw_cd 67) 51 = .ok (.invokevirtual 44, 3) := by decide +kernel
theorem tz_67_51 : tw_E sc (d + 1) 67 51 [x0, x1, x2] ([.ref a]) g mi mr Q = (tw_kd g a = 4 ∧ tw_E sc d 81 0 [some (.ref a)] [] g mi mr (tw_K sc (d + 1) 67 54 [x0, x1, x2] [] Q)) := tw_x_cv (as := []) (r := []) td_67_51 to_67 tc_4_44 to_81 rfl rfl rfl rfl
theorem td_67_54 : decode (tw_cd 67) 54 = .ok (.pop, 1) := by decide +kernel
theorem tz_67_54 : tw_E sc d 67 54 [x0, x1, x2] (.int v :: st) g mi mr Q = tw_E sc d 67 55 [x0, x1, x2] st g mi mr Q := tw_x_pop_int td_67_54
theorem td_67_55 : decode (tw_cd 67) 55 = .ok (.aload_n 0, 1) := by decide +kernel
theorem tz_67_55 : tw_E sc d 67 55 [some (.ref a), x1, x2] st g mi mr Q = tw_E sc d 67 56 [some (.ref a), x1, x2] (.ref a :: st) g mi mr Q := tw_x_aload_n td_67_55 rfl
theorem td_67_56 : decode (tw_cd 67) 56 = .ok (.invokevirtual 48, 3) := by decide +kernel
theorem tz_67_56 : tw_E sc (d + 1) 67 56 [x0, x1, x2] ([.ref a]) g mi mr Q = (tw_kd g a = 4 ∧ tw_E sc d 68 0 [some (.ref a)] [] g mi mr (tw_K sc (d + 1) 67 59 [x0, x1, x2] [] Q)) := tw_x_cv (as := []) (r := []) td_67_56 to_67 tc_4_48 to_68 rfl rfl rfl rfl
theorem td_67_59 : decode (tw_cd 67) 59 = .ok (.ifCond .ne 7, 3) := by decide +kernel
theorem tz_67_59 : tw_E sc d 67 59 [x0, x1, x2] (.int v :: st) g mi mr Q = if ¬ v = 0 then tw_E sc d 67 66 [x0, x1, x2] st g mi mr Q else tw_E sc d 67 62 [x0, x1, x2] st g mi mr Q := tw_x_if_ne td_67_59 (by decide)
theorem td_67_62 : decode (tw_cd 67) 62 = .ok (.iconst 1, 1) := by decide +kernel
theorem tz_67_62 : tw_E sc d 67 62 [x0, x1, x2] st g mi mr Q = tw_E sc d 67 63 [x0, x1, x2] (.int 1 :: st) g mi mr Q := tw_x_iconst td_67_62 (by decide)
theorem td_67_63 : decode (tw_cd 67) 63 = .ok (.goto 4, 3) := by decide +kernel
theorem tz_67_63 : tw_E sc d 67 63 [x0, x1, x2] st g mi mr Q = tw_E sc d 67 67 [x0, x1, x2] st g mi mr Q := tw_x_goto td_67_63 (by decide)
theorem td_67_66 : decode (tw_cd 67) 66 = .ok (.iconst 0, 1) := by decide +kernel
theorem tz_67_66 : tw_E sc d 67 66 [x0, x1, x2] st g mi mr Q = tw_E sc d 67 67 [x0, x1, x2] (.int 0 :: st) g mi mr Q := tw_x_iconst td_67_66 (by decide)
theorem td_67_67 : decode (tw_cd 67) 67 = .ok (.ireturn, 1) := by decide +kernel
theorem tz_67_67 : tw_E sc d 67 67 [x0, x1, x2] ([.int v]) g mi mr Q = ((v = 0 ∨ v = 1) ∧ Q (some (.int v)) g mi mr) := tw_x_zret td_67_67 tr_67
end tz_67
-- 68: Re_faultKind
section tz_68
variable {sc : Nat × (Nat → Int32)} {d : Nat} {x0 : Option Value} {st : List Value} {g : tw_G} {mi : tw_I} {mr : tw_Q} {Q : Option Value → tw_G → tw_I → tw_Q → Prop} {v w u : Int32} {a b : Nat} {j h : Int64} {s1 s2 s3 s4 : Value}
theorem td_68_0 : decode (tw_cd 68) 0 = .ok (.aload_n 0, 1) := by decide +kernel
theorem tz_68_0 : tw_E sc d 68 0 [some (.ref a)] st g mi mr Q = tw_E sc d 68 1 [some (.ref a)] (.ref a :: st) g mi mr Q := tw_x_aload_n td_68_0 rfl
theorem td_68_1 : decode (tw_cd 68) 1 = .ok (.getfield 9, 3) := by decide +kernel
theorem tz_68_1 : tw_E sc d 68 1 [x0] (.ref a :: st) g mi mr Q = (tw_kd g a = 4 ∧ tw_E sc d 68 4 [x0] (.int (mi a 6) :: st) g mi mr Q) := tw_x_geti td_68_1 to_68 tf_4_9 (trf_4_6)
theorem td_68_4 : decode (tw_cd 68) 4 = .ok (.bipush (-9), 2) := by decide +kernel
theorem tz_68_4 : tw_E sc d 68 4 [x0] st g mi mr Q = tw_E sc d 68 6 [x0] (.int (-9) :: st) g mi mr Q := tw_x_bipush td_68_4 (by decide)
theorem td_68_6 : decode (tw_cd 68) 6 = .ok (.if_icmp .eq 5, 3) := by decide +kernel
theorem tz_68_6 : tw_E sc d 68 6 [x0] (.int w :: .int v :: st) g mi mr Q = if v = w then tw_E sc d 68 11 [x0] st g mi mr Q else tw_E sc d 68 9 [x0] st g mi mr Q := tw_x_ic_eq td_68_6 (by decide)
theorem td_68_9 : decode (tw_cd 68) 9 = .ok (.iconst 1, 1) := by decide +kernel
theorem tz_68_9 : tw_E sc d 68 9 [x0] st g mi mr Q = tw_E sc d 68 10 [x0] (.int 1 :: st) g mi mr Q := tw_x_iconst td_68_9 (by decide)
theorem td_68_10 : decode (tw_cd 68) 10 = .ok (.ireturn, 1) := by decide +kernel
theorem tz_68_10 : tw_E sc d 68 10 [x0] ([.int v]) g mi mr Q = Q (some (.int v)) g mi mr := tw_x_iret td_68_10 tr_68
theorem td_68_11 : decode (tw_cd 68) 11 = .ok (.aload_n 0, 1) := by decide +kernel
theorem tz_68_11 : tw_E sc d 68 11 [some (.ref a)] st g mi mr Q = tw_E sc d 68 12 [some (.ref a)] (.ref a :: st) g mi mr Q := tw_x_aload_n td_68_11 rfl
theorem td_68_12 : decode (tw_cd 68) 12 = .ok (.getfield 15, 3) := by decide +kernel
theorem tz_68_12 : tw_E sc d 68 12 [x0] (.ref a :: st) g mi mr Q = (tw_kd g a = 4 ∧ tw_E sc d 68 15 [x0] (.int (mi a 7) :: st) g mi mr Q) := tw_x_geti td_68_12 to_68 tf_4_15 (trf_4_7)
theorem td_68_15 : decode (tw_cd 68) 15 = .ok (.bipush (-9), 2) := by decide +kernel
theorem tz_68_15 : tw_E sc d 68 15 [x0] st g mi mr Q = tw_E sc d 68 17 [x0] (.int (-9) :: st) g mi mr Q := tw_x_bipush td_68_15 (by decide)
theorem td_68_17 : decode (tw_cd 68) 17 = .ok (.if_icmp .eq 7, 3) := by decide +kernel
theorem tz_68_17 : tw_E sc d 68 17 [x0] (.int w :: .int v :: st) g mi mr Q = if v = w then tw_E sc d 68 24 [x0] st g mi mr Q else tw_E sc d 68 20 [x0] st g mi mr Q := tw_x_ic_eq td_68_17 (by decide)
theorem td_68_20 : decode (tw_cd 68) 20 = .ok (.iconst 2, 1) := by decide +kernel
theorem tz_68_20 : tw_E sc d 68 20 [x0] st g mi mr Q = tw_E sc d 68 21 [x0] (.int 2 :: st) g mi mr Q := tw_x_iconst td_68_20 (by decide)
theorem td_68_21 : decode (tw_cd 68) 21 = .ok (.goto 4, 3) := by decide +kernel
theorem tz_68_21 : tw_E sc d 68 21 [x0] st g mi mr Q = tw_E sc d 68 25 [x0] st g mi mr Q := tw_x_goto td_68_21 (by decide)
theorem td_68_24 : decode (tw_cd 68) 24 = .ok (.iconst 0, 1) := by decide +kernel
theorem tz_68_24 : tw_E sc d 68 24 [x0] st g mi mr Q = tw_E sc d 68 25 [x0] (.int 0 :: st) g mi mr Q := tw_x_iconst td_68_24 (by decide)
theorem td_68_25 : decode (tw_cd 68) 25 = .ok (.ireturn, 1) := by decide +kernel
theorem tz_68_25 : tw_E sc d 68 25 [x0] ([.int v]) g mi mr Q = Q (some (.int v)) g mi mr := tw_x_iret td_68_25 tr_68
end tz_68
-- 69: Re_faultPlace
section tz_69
variable {sc : Nat × (Nat → Int32)} {d : Nat} {x0 : Option Value} {st : List Value} {g : tw_G} {mi : tw_I} {mr : tw_Q} {Q : Option Value → tw_G → tw_I → tw_Q → Prop} {v w u : Int32} {a b : Nat} {j h : Int64} {s1 s2 s3 s4 : Value}
theorem td_69_0 : decode (tw_cd 69) 0 = .ok (.aload_n 0, 1) := by decide +kernel
theorem tz_69_0 : tw_E sc d 69 0 [some (.ref a)] st g mi mr Q = tw_E sc d 69 1 [some (.ref a)] (.ref a :: st) g mi mr Q := tw_x_aload_n td_69_0 rfl
theorem td_69_1 : decode (tw_cd 69) 1 = .ok (.getfield 9, 3) := by decide +kernel
theorem tz_69_1 : tw_E sc d 69 1 [x0] (.ref a :: st) g mi mr Q = (tw_kd g a = 4 ∧ tw_E sc d 69 4 [x0] (.int (mi a 6) :: st) g mi mr Q) := tw_x_geti td_69_1 to_69 tf_4_9 (trf_4_6)
theorem td_69_4 : decode (tw_cd 69) 4 = .ok (.bipush (-9), 2) := by decide +kernel
theorem tz_69_4 : tw_E sc d 69 4 [x0] st g mi mr Q = tw_E sc d 69 6 [x0] (.int (-9) :: st) g mi mr Q := tw_x_bipush td_69_4 (by decide)
theorem td_69_6 : decode (tw_cd 69) 6 = .ok (.if_icmp .eq 10, 3) := by decide +kernel
theorem tz_69_6 : tw_E sc d 69 6 [x0] (.int w :: .int v :: st) g mi mr Q = if v = w then tw_E sc d 69 16 [x0] st g mi mr Q else tw_E sc d 69 9 [x0] st g mi mr Q := tw_x_ic_eq td_69_6 (by decide)
theorem td_69_9 : decode (tw_cd 69) 9 = .ok (.aload_n 0, 1) := by decide +kernel
theorem tz_69_9 : tw_E sc d 69 9 [some (.ref a)] st g mi mr Q = tw_E sc d 69 10 [some (.ref a)] (.ref a :: st) g mi mr Q := tw_x_aload_n td_69_9 rfl
theorem td_69_10 : decode (tw_cd 69) 10 = .ok (.getfield 9, 3) := by decide +kernel
theorem tz_69_10 : tw_E sc d 69 10 [x0] (.ref a :: st) g mi mr Q = (tw_kd g a = 4 ∧ tw_E sc d 69 13 [x0] (.int (mi a 6) :: st) g mi mr Q) := tw_x_geti td_69_10 to_69 tf_4_9 (trf_4_6)
theorem td_69_13 : decode (tw_cd 69) 13 = .ok (.goto 7, 3) := by decide +kernel
theorem tz_69_13 : tw_E sc d 69 13 [x0] st g mi mr Q = tw_E sc d 69 20 [x0] st g mi mr Q := tw_x_goto td_69_13 (by decide)
theorem td_69_16 : decode (tw_cd 69) 16 = .ok (.aload_n 0, 1) := by decide +kernel
theorem tz_69_16 : tw_E sc d 69 16 [some (.ref a)] st g mi mr Q = tw_E sc d 69 17 [some (.ref a)] (.ref a :: st) g mi mr Q := tw_x_aload_n td_69_16 rfl
theorem td_69_17 : decode (tw_cd 69) 17 = .ok (.getfield 15, 3) := by decide +kernel
theorem tz_69_17 : tw_E sc d 69 17 [x0] (.ref a :: st) g mi mr Q = (tw_kd g a = 4 ∧ tw_E sc d 69 20 [x0] (.int (mi a 7) :: st) g mi mr Q) := tw_x_geti td_69_17 to_69 tf_4_15 (trf_4_7)
theorem td_69_20 : decode (tw_cd 69) 20 = .ok (.ireturn, 1) := by decide +kernel
theorem tz_69_20 : tw_E sc d 69 20 [x0] ([.int v]) g mi mr Q = Q (some (.int v)) g mi mr := tw_x_iret td_69_20 tr_69
end tz_69
-- 70: Re_readRow
section tz_70
variable {sc : Nat × (Nat → Int32)} {d : Nat} {x0 x1 x2 x3 : Option Value} {st : List Value} {g : tw_G} {mi : tw_I} {mr : tw_Q} {Q : Option Value → tw_G → tw_I → tw_Q → Prop} {v w u : Int32} {a b : Nat} {j h : Int64} {s1 s2 s3 s4 : Value}
theorem td_70_0 : decode (tw_cd 70) 0 = .ok (.aload_n 0, 1) := by decide +kernel
theorem tz_70_0 : tw_E sc d 70 0 [some (.ref a), x1, x2, x3] st g mi mr Q = tw_E sc d 70 1 [some (.ref a), x1, x2, x3] (.ref a :: st) g mi mr Q := tw_x_aload_n td_70_0 rfl
theorem td_70_1 : decode (tw_cd 70) 1 = .ok (.iload_n 1, 1) := by decide +kernel
theorem tz_70_1 : tw_E sc d 70 1 [x0, some (.int v), x2, x3] st g mi mr Q = tw_E sc d 70 2 [x0, some (.int v), x2, x3] (.int v :: st) g mi mr Q := tw_x_iload_n td_70_1 rfl
theorem td_70_2 : decode (tw_cd 70) 2 = .ok (.invokevirtual 51, 3) := by decide +kernel
theorem tz_70_2 {a0 : Int32} : tw_E sc (d + 1) 70 2 [x0, x1, x2, x3] ([.int a0, .ref a]) g mi mr Q = (tw_kd g a = 4 ∧ tw_E sc d 73 0 [some (.ref a), some (.int a0), none, none, none] [] g mi mr (tw_K sc (d + 1) 70 5 [x0, x1, x2, x3] [] Q)) := tw_x_cv (as := [.int a0]) (r := []) td_70_2 to_70 tc_4_51 to_73 rfl rfl rfl rfl
theorem td_70_5 : decode (tw_cd 70) 5 = .ok (.istore_n 2, 1) := by decide +kernel
theorem tz_70_5 : tw_E sc d 70 5 [x0, x1, x2, x3] (.int v :: st) g mi mr Q = tw_E sc d 70 6 [x0, x1, some (.int v), x3] st g mi mr Q := tw_x_istore_n td_70_5 tp_70 rfl
theorem td_70_6 : decode (tw_cd 70) 6 = .ok (.iconst 0, 1) := by decide +kernel
theorem tz_70_6 : tw_E sc d 70 6 [x0, x1, x2, x3] st g mi mr Q = tw_E sc d 70 7 [x0, x1, x2, x3] (.int 0 :: st) g mi mr Q := tw_x_iconst td_70_6 (by decide)
theorem td_70_7 : decode (tw_cd 70) 7 = .ok (.istore_n 3, 1) := by decide +kernel
theorem tz_70_7 : tw_E sc d 70 7 [x0, x1, x2, x3] (.int v :: st) g mi mr Q = tw_E sc d 70 8 [x0, x1, x2, some (.int v)] st g mi mr Q := tw_x_istore_n td_70_7 tp_70 rfl
theorem td_70_8 : decode (tw_cd 70) 8 = .ok (.iload_n 3, 1) := by decide +kernel
theorem tz_70_8 : tw_E sc d 70 8 [x0, x1, x2, some (.int v)] st g mi mr Q = tw_E sc d 70 9 [x0, x1, x2, some (.int v)] (.int v :: st) g mi mr Q := tw_x_iload_n td_70_8 rfl
theorem td_70_9 : decode (tw_cd 70) 9 = .ok (.bipush 60, 2) := by decide +kernel
theorem tz_70_9 : tw_E sc d 70 9 [x0, x1, x2, x3] st g mi mr Q = tw_E sc d 70 11 [x0, x1, x2, x3] (.int 60 :: st) g mi mr Q := tw_x_bipush td_70_9 (by decide)
theorem td_70_11 : decode (tw_cd 70) 11 = .ok (.if_icmp .ge 59, 3) := by decide +kernel
theorem tz_70_11 : tw_E sc d 70 11 [x0, x1, x2, x3] (.int w :: .int v :: st) g mi mr Q = if w ≤ v then tw_E sc d 70 70 [x0, x1, x2, x3] st g mi mr Q else tw_E sc d 70 14 [x0, x1, x2, x3] st g mi mr Q := tw_x_ic_ge td_70_11 (by decide)
theorem td_70_14 : decode (tw_cd 70) 14 = .ok (.iload_n 2, 1) := by decide +kernel
theorem tz_70_14 : tw_E sc d 70 14 [x0, x1, some (.int v), x3] st g mi mr Q = tw_E sc d 70 15 [x0, x1, some (.int v), x3] (.int v :: st) g mi mr Q := tw_x_iload_n td_70_14 rfl
theorem td_70_15 : decode (tw_cd 70) 15 = .ok (.ifCond .lt 55, 3) := by decide +kernel
theorem tz_70_15 : tw_E sc d 70 15 [x0, x1, x2, x3] (.int v :: st) g mi mr Q = if v < 0 then tw_E sc d 70 70 [x0, x1, x2, x3] st g mi mr Q else tw_E sc d 70 18 [x0, x1, x2, x3] st g mi mr Q := tw_x_if_lt td_70_15 (by decide)
theorem td_70_18 : decode (tw_cd 70) 18 = .ok (.aload_n 0, 1) := by decide +kernel
theorem tz_70_18 : tw_E sc d 70 18 [some (.ref a), x1, x2, x3] st g mi mr Q = tw_E sc d 70 19 [some (.ref a), x1, x2, x3] (.ref a :: st) g mi mr Q := tw_x_aload_n td_70_18 rfl
theorem td_70_19 : decode (tw_cd 70) 19 = .ok (.getfield 41, 3) := by decide +kernel
theorem tz_70_19 : tw_E sc d 70 19 [x0, x1, x2, x3] (.ref a :: st) g mi mr Q = (tw_kd g a = 4 ∧ tw_E sc d 70 22 [x0, x1, x2, x3] (.int (mi a 2) :: st) g mi mr Q) := tw_x_geti td_70_19 to_70 tf_4_41 (trf_4_2)
theorem td_70_22 : decode (tw_cd 70) 22 = .ok (.bipush 59, 2) := by decide +kernel
theorem tz_70_22 : tw_E sc d 70 22 [x0, x1, x2, x3] st g mi mr Q = tw_E sc d 70 24 [x0, x1, x2, x3] (.int 59 :: st) g mi mr Q := tw_x_bipush td_70_22 (by decide)
theorem td_70_24 : decode (tw_cd 70) 24 = .ok (.if_icmp .ne 46, 3) := by decide +kernel
theorem tz_70_24 : tw_E sc d 70 24 [x0, x1, x2, x3] (.int w :: .int v :: st) g mi mr Q = if ¬ v = w then tw_E sc d 70 70 [x0, x1, x2, x3] st g mi mr Q else tw_E sc d 70 27 [x0, x1, x2, x3] st g mi mr Q := tw_x_ic_ne td_70_24 (by decide)
theorem td_70_27 : decode (tw_cd 70) 27 = .ok (.aload_n 0, 1) := by decide +kernel
theorem tz_70_27 : tw_E sc d 70 27 [some (.ref a), x1, x2, x3] st g mi mr Q = tw_E sc d 70 28 [some (.ref a), x1, x2, x3] (.ref a :: st) g mi mr Q := tw_x_aload_n td_70_27 rfl
theorem td_70_28 : decode (tw_cd 70) 28 = .ok (.invokevirtual 34, 3) := by decide +kernel
theorem tz_70_28 : tw_E sc (d + 1) 70 28 [x0, x1, x2, x3] ([.ref a]) g mi mr Q = (tw_kd g a = 4 ∧ tw_E sc d 83 0 [some (.ref a)] [] g mi mr (tw_K sc (d + 1) 70 31 [x0, x1, x2, x3] [] Q)) := tw_x_cv (as := []) (r := []) td_70_28 to_70 tc_4_34 to_83 rfl rfl rfl rfl
theorem td_70_31 : decode (tw_cd 70) 31 = .ok (.aload_n 0, 1) := by decide +kernel
theorem tz_70_31 : tw_E sc d 70 31 [some (.ref a), x1, x2, x3] st g mi mr Q = tw_E sc d 70 32 [some (.ref a), x1, x2, x3] (.ref a :: st) g mi mr Q := tw_x_aload_n td_70_31 rfl
theorem td_70_32 : decode (tw_cd 70) 32 = .ok (.getfield 41, 3) := by decide +kernel
theorem tz_70_32 : tw_E sc d 70 32 [x0, x1, x2, x3] (.ref a :: st) g mi mr Q = (tw_kd g a = 4 ∧ tw_E sc d 70 35 [x0, x1, x2, x3] (.int (mi a 2) :: st) g mi mr Q) := tw_x_geti td_70_32 to_70 tf_4_41 (trf_4_2)
theorem td_70_35 : decode (tw_cd 70) 35 = .ok (.sipush 256, 3) := by decide +kernel
theorem tz_70_35 : tw_E sc d 70 35 [x0, x1, x2, x3] st g mi mr Q = tw_E sc d 70 38 [x0, x1, x2, x3] (.int 256 :: st) g mi mr Q := tw_x_sipush td_70_35 (by decide)
theorem td_70_38 : decode (tw_cd 70) 38 = .ok (.if_icmp .ne 19, 3) := by decide +kernel
theorem tz_70_38 : tw_E sc d 70 38 [x0, x1, x2, x3] (.int w :: .int v :: st) g mi mr Q = if ¬ v = w then tw_E sc d 70 57 [x0, x1, x2, x3] st g mi mr Q else tw_E sc d 70 41 [x0, x1, x2, x3] st g mi mr Q := tw_x_ic_ne td_70_38 (by decide)
theorem td_70_41 : decode (tw_cd 70) 41 = .ok (.aload_n 0, 1) := by decide +kernel
theorem tz_70_41 : tw_E sc d 70 41 [some (.ref a), x1, x2, x3] st g mi mr Q = tw_E sc d 70 42 [some (.ref a), x1, x2, x3] (.ref a :: st) g mi mr Q := tw_x_aload_n td_70_41 rfl
theorem td_70_42 : decode (tw_cd 70) 42 = .ok (.invokevirtual 54, 3) := by decide +kernel
theorem tz_70_42 : tw_E sc (d + 1) 70 42 [x0, x1, x2, x3] ([.ref a]) g mi mr Q = (tw_kd g a = 4 ∧ tw_E sc d 85 0 [some (.ref a)] [] g mi mr (tw_K sc (d + 1) 70 45 [x0, x1, x2, x3] [] Q)) := tw_x_cv (as := []) (r := []) td_70_42 to_70 tc_4_54 to_85 rfl rfl rfl rfl
theorem td_70_45 : decode (tw_cd 70) 45 = .ok (.ifCond .ne 12, 3) := by decide +kernel
theorem tz_70_45 : tw_E sc d 70 45 [x0, x1, x2, x3] (.int v :: st) g mi mr Q = if ¬ v = 0 then tw_E sc d 70 57 [x0, x1, x2, x3] st g mi mr Q else tw_E sc d 70 48 [x0, x1, x2, x3] st g mi mr Q := tw_x_if_ne td_70_45 (by decide)
theorem td_70_48 : decode (tw_cd 70) 48 = .ok (.aload_n 0, 1) := by decide +kernel
theorem tz_70_48 : tw_E sc d 70 48 [some (.ref a), x1, x2, x3] st g mi mr Q = tw_E sc d 70 49 [some (.ref a), x1, x2, x3] (.ref a :: st) g mi mr Q := tw_x_aload_n td_70_48 rfl
theorem td_70_49 : decode (tw_cd 70) 49 = .ok (.iload_n 2, 1) := by decide +kernel
theorem tz_70_49 : tw_E sc d 70 49 [x0, x1, some (.int v), x3] st g mi mr Q = tw_E sc d 70 50 [x0, x1, some (.int v), x3] (.int v :: st) g mi mr Q := tw_x_iload_n td_70_49 rfl
theorem td_70_50 : decode (tw_cd 70) 50 = .ok (.iload_n 1, 1) := by decide +kernel
theorem tz_70_50 : tw_E sc d 70 50 [x0, some (.int v), x2, x3] st g mi mr Q = tw_E sc d 70 51 [x0, some (.int v), x2, x3] (.int v :: st) g mi mr Q := tw_x_iload_n td_70_50 rfl
theorem td_70_51 : decode (tw_cd 70) 51 = .ok (.invokevirtual 58, 3) := by decide +kernel
theorem tz_70_51 {a0 : Int32} {a1 : Int32} : tw_E sc (d + 1) 70 51 [x0, x1, x2, x3] ([.int a1, .int a0, .ref a]) g mi mr Q = (tw_kd g a = 4 ∧ tw_E sc d 72 0 [some (.ref a), some (.int a0), some (.int a1), none, none, none] [] g mi mr (tw_K sc (d + 1) 70 54 [x0, x1, x2, x3] [] Q)) := tw_x_cv (as := [.int a0, .int a1]) (r := []) td_70_51 to_70 tc_4_58 to_72 rfl rfl rfl rfl
theorem td_70_54 : decode (tw_cd 70) 54 = .ok (.goto 9, 3) := by decide +kernel
theorem tz_70_54 : tw_E sc d 70 54 [x0, x1, x2, x3] st g mi mr Q = tw_E sc d 70 63 [x0, x1, x2, x3] st g mi mr Q := tw_x_goto td_70_54 (by decide)
theorem td_70_57 : decode (tw_cd 70) 57 = .ok (.aload_n 0, 1) := by decide +kernel
theorem tz_70_57 : tw_E sc d 70 57 [some (.ref a), x1, x2, x3] st g mi mr Q = tw_E sc d 70 58 [some (.ref a), x1, x2, x3] (.ref a :: st) g mi mr Q := tw_x_aload_n td_70_57 rfl
theorem td_70_58 : decode (tw_cd 70) 58 = .ok (.iload_n 2, 1) := by decide +kernel
theorem tz_70_58 : tw_E sc d 70 58 [x0, x1, some (.int v), x3] st g mi mr Q = tw_E sc d 70 59 [x0, x1, some (.int v), x3] (.int v :: st) g mi mr Q := tw_x_iload_n td_70_58 rfl
theorem td_70_59 : decode (tw_cd 70) 59 = .ok (.iload_n 1, 1) := by decide +kernel
theorem tz_70_59 : tw_E sc d 70 59 [x0, some (.int v), x2, x3] st g mi mr Q = tw_E sc d 70 60 [x0, some (.int v), x2, x3] (.int v :: st) g mi mr Q := tw_x_iload_n td_70_59 rfl
theorem td_70_60 : decode (tw_cd 70) 60 = .ok (.invokevirtual 62, 3) := by decide +kernel
theorem tz_70_60 {a0 : Int32} {a1 : Int32} : tw_E sc (d + 1) 70 60 [x0, x1, x2, x3] ([.int a1, .int a0, .ref a]) g mi mr Q = (tw_kd g a = 4 ∧ tw_E sc d 71 0 [some (.ref a), some (.int a0), some (.int a1), none] [] g mi mr (tw_K sc (d + 1) 70 63 [x0, x1, x2, x3] [] Q)) := tw_x_cv (as := [.int a0, .int a1]) (r := []) td_70_60 to_70 tc_4_62 to_71 rfl rfl rfl rfl
theorem td_70_63 : decode (tw_cd 70) 63 = .ok (.istore_n 2, 1) := by decide +kernel
theorem tz_70_63 : tw_E sc d 70 63 [x0, x1, x2, x3] (.int v :: st) g mi mr Q = tw_E sc d 70 64 [x0, x1, some (.int v), x3] st g mi mr Q := tw_x_istore_n td_70_63 tp_70 rfl
theorem td_70_64 : decode (tw_cd 70) 64 = .ok (.iinc 3 1, 3) := by decide +kernel
theorem tz_70_64 : tw_E sc d 70 64 [x0, x1, x2, some (.int v)] st g mi mr Q = tw_E sc d 70 67 [x0, x1, x2, some (.int (v + 1))] st g mi mr Q := tw_x_iinc td_70_64 rfl (by first | rfl | (exact congrArg (v + ·) (by decide))) tp_70 rfl
theorem td_70_67 : decode (tw_cd 70) 67 = .ok (.goto (-59), 3) := by decide +kernel
theorem tz_70_67 : tw_E sc d 70 67 [x0, x1, x2, x3] st g mi mr Q = tw_E sc d 70 8 [x0, x1, x2, x3] st g mi mr Q := tw_x_goto td_70_67 (by decide)
theorem td_70_70 : decode (tw_cd 70) 70 = .ok (.iload_n 2, 1) := by decide +kernel
theorem tz_70_70 : tw_E sc d 70 70 [x0, x1, some (.int v), x3] st g mi mr Q = tw_E sc d 70 71 [x0, x1, some (.int v), x3] (.int v :: st) g mi mr Q := tw_x_iload_n td_70_70 rfl
theorem td_70_71 : decode (tw_cd 70) 71 = .ok (.ireturn, 1) := by decide +kernel
theorem tz_70_71 : tw_E sc d 70 71 [x0, x1, x2, x3] ([.int v]) g mi mr Q = Q (some (.int v)) g mi mr := tw_x_iret td_70_71 tr_70
end tz_70
-- 71: Re_readArmed
section tz_71
variable {sc : Nat × (Nat → Int32)} {d : Nat} {x0 x1 x2 x3 : Option Value} {st : List Value} {g : tw_G} {mi : tw_I} {mr : tw_Q} {Q : Option Value → tw_G → tw_I → tw_Q → Prop} {v w u : Int32} {a b : Nat} {j h : Int64} {s1 s2 s3 s4 : Value}
theorem td_71_0 : decode (tw_cd 71) 0 = .ok (.aload_n 0, 1) := by decide +kernel
theorem tz_71_0 : tw_E sc d 71 0 [some (.ref a), x1, x2, x3] st g mi mr Q = tw_E sc d 71 1 [some (.ref a), x1, x2, x3] (.ref a :: st) g mi mr Q := tw_x_aload_n td_71_0 rfl
theorem td_71_1 : decode (tw_cd 71) 1 = .ok (.iload_n 2, 1) := by decide +kernel
theorem tz_71_1 : tw_E sc d 71 1 [x0, x1, some (.int v), x3] st g mi mr Q = tw_E sc d 71 2 [x0, x1, some (.int v), x3] (.int v :: st) g mi mr Q := tw_x_iload_n td_71_1 rfl
theorem td_71_2 : decode (tw_cd 71) 2 = .ok (.invokevirtual 51, 3) := by decide +kernel
theorem tz_71_2 {a0 : Int32} : tw_E sc (d + 1) 71 2 [x0, x1, x2, x3] ([.int a0, .ref a]) g mi mr Q = (tw_kd g a = 4 ∧ tw_E sc d 73 0 [some (.ref a), some (.int a0), none, none, none] [] g mi mr (tw_K sc (d + 1) 71 5 [x0, x1, x2, x3] [] Q)) := tw_x_cv (as := [.int a0]) (r := []) td_71_2 to_71 tc_4_51 to_73 rfl rfl rfl rfl
theorem td_71_5 : decode (tw_cd 71) 5 = .ok (.istore_n 3, 1) := by decide +kernel
theorem tz_71_5 : tw_E sc d 71 5 [x0, x1, x2, x3] (.int v :: st) g mi mr Q = tw_E sc d 71 6 [x0, x1, x2, some (.int v)] st g mi mr Q := tw_x_istore_n td_71_5 tp_71 rfl
theorem td_71_6 : decode (tw_cd 71) 6 = .ok (.iload_n 3, 1) := by decide +kernel
theorem tz_71_6 : tw_E sc d 71 6 [x0, x1, x2, some (.int v)] st g mi mr Q = tw_E sc d 71 7 [x0, x1, x2, some (.int v)] (.int v :: st) g mi mr Q := tw_x_iload_n td_71_6 rfl
theorem td_71_7 : decode (tw_cd 71) 7 = .ok (.ifCond .ge 7, 3) := by decide +kernel
theorem tz_71_7 : tw_E sc d 71 7 [x0, x1, x2, x3] (.int v :: st) g mi mr Q = if 0 ≤ v then tw_E sc d 71 14 [x0, x1, x2, x3] st g mi mr Q else tw_E sc d 71 10 [x0, x1, x2, x3] st g mi mr Q := tw_x_if_ge td_71_7 (by decide)
theorem td_71_10 : decode (tw_cd 71) 10 = .ok (.iload_n 3, 1) := by decide +kernel
theorem tz_71_10 : tw_E sc d 71 10 [x0, x1, x2, some (.int v)] st g mi mr Q = tw_E sc d 71 11 [x0, x1, x2, some (.int v)] (.int v :: st) g mi mr Q := tw_x_iload_n td_71_10 rfl
theorem td_71_11 : decode (tw_cd 71) 11 = .ok (.goto 15, 3) := by decide +kernel
theorem tz_71_11 : tw_E sc d 71 11 [x0, x1, x2, x3] st g mi mr Q = tw_E sc d 71 26 [x0, x1, x2, x3] st g mi mr Q := tw_x_goto td_71_11 (by decide)
theorem td_71_14 : decode (tw_cd 71) 14 = .ok (.aload_n 0, 1) := by decide +kernel
theorem tz_71_14 : tw_E sc d 71 14 [some (.ref a), x1, x2, x3] st g mi mr Q = tw_E sc d 71 15 [some (.ref a), x1, x2, x3] (.ref a :: st) g mi mr Q := tw_x_aload_n td_71_14 rfl
theorem td_71_15 : decode (tw_cd 71) 15 = .ok (.bipush 6, 2) := by decide +kernel
theorem tz_71_15 : tw_E sc d 71 15 [x0, x1, x2, x3] st g mi mr Q = tw_E sc d 71 17 [x0, x1, x2, x3] (.int 6 :: st) g mi mr Q := tw_x_bipush td_71_15 (by decide)
theorem td_71_17 : decode (tw_cd 71) 17 = .ok (.iload_n 1, 1) := by decide +kernel
theorem tz_71_17 : tw_E sc d 71 17 [x0, some (.int v), x2, x3] st g mi mr Q = tw_E sc d 71 18 [x0, some (.int v), x2, x3] (.int v :: st) g mi mr Q := tw_x_iload_n td_71_17 rfl
theorem td_71_18 : decode (tw_cd 71) 18 = .ok (.iload_n 3, 1) := by decide +kernel
theorem tz_71_18 : tw_E sc d 71 18 [x0, x1, x2, some (.int v)] st g mi mr Q = tw_E sc d 71 19 [x0, x1, x2, some (.int v)] (.int v :: st) g mi mr Q := tw_x_iload_n td_71_18 rfl
theorem td_71_19 : decode (tw_cd 71) 19 = .ok (.bipush (-9), 2) := by decide +kernel
theorem tz_71_19 : tw_E sc d 71 19 [x0, x1, x2, x3] st g mi mr Q = tw_E sc d 71 21 [x0, x1, x2, x3] (.int (-9) :: st) g mi mr Q := tw_x_bipush td_71_19 (by decide)
theorem td_71_21 : decode (tw_cd 71) 21 = .ok (.bipush (-9), 2) := by decide +kernel
theorem tz_71_21 : tw_E sc d 71 21 [x0, x1, x2, x3] st g mi mr Q = tw_E sc d 71 23 [x0, x1, x2, x3] (.int (-9) :: st) g mi mr Q := tw_x_bipush td_71_21 (by decide)
theorem td_71_23 : decode (tw_cd 71) 23 = .ok (.invokevirtual 65, 3) := by decide +kernel
theorem tz_71_23 {a0 : Int32} {a1 : Int32} {a2 : Int32} {a3 : Int32} {a4 : Int32} : tw_E sc (d + 1) 71 23 [x0, x1, x2, x3] ([.int a4, .int a3, .int a2, .int a1, .int a0, .ref a]) g mi mr Q = (tw_kd g a = 4 ∧ tw_E sc d 80 0 [some (.ref a), some (.int a0), some (.int a1), some (.int a2), some (.int a3), some (.int a4), none] [] g mi mr (tw_K sc (d + 1) 71 26 [x0, x1, x2, x3] [] Q)) := tw_x_cv (as := [.int a0, .int a1, .int a2, .int a3, .int a4]) (r := []) td_71_23 to_71 tc_4_65 to_80 rfl rfl rfl rfl
theorem td_71_26 : decode (tw_cd 71) 26 = .ok (.ireturn, 1) := by decide +kernel
theorem tz_71_26 : tw_E sc d 71 26 [x0, x1, x2, x3] ([.int v]) g mi mr Q = Q (some (.int v)) g mi mr := tw_x_iret td_71_26 tr_71
end tz_71
-- 72: Re_readTimed
section tz_72
variable {sc : Nat × (Nat → Int32)} {d : Nat} {x0 x1 x2 x3 x4 x5 : Option Value} {st : List Value} {g : tw_G} {mi : tw_I} {mr : tw_Q} {Q : Option Value → tw_G → tw_I → tw_Q → Prop} {v w u : Int32} {a b : Nat} {j h : Int64} {s1 s2 s3 s4 : Value}
theorem td_72_0 : decode (tw_cd 72) 0 = .ok (.aload_n 0, 1) := by decide +kernel
theorem tz_72_0 : tw_E sc d 72 0 [some (.ref a), x1, x2, x3, x4, x5] st g mi mr Q = tw_E sc d 72 1 [some (.ref a), x1, x2, x3, x4, x5] (.ref a :: st) g mi mr Q := tw_x_aload_n td_72_0 rfl
theorem td_72_1 : decode (tw_cd 72) 1 = .ok (.getfield 69, 3) := by decide +kernel
theorem tz_72_1 : tw_E sc d 72 1 [x0, x1, x2, x3, x4, x5] (.ref a :: st) g mi mr Q = (tw_kd g a = 4 ∧ tw_E sc d 72 4 [x0, x1, x2, x3, x4, x5] (.int (mi a 3) :: st) g mi mr Q) := tw_x_geti td_72_1 to_72 tf_4_69 (trf_4_3)
theorem td_72_4 : decode (tw_cd 72) 4 = .ok (.istore_n 3, 1) := by decide +kernel
theorem tz_72_4 : tw_E sc d 72 4 [x0, x1, x2, x3, x4, x5] (.int v :: st) g mi mr Q = tw_E sc d 72 5 [x0, x1, x2, some (.int v), x4, x5] st g mi mr Q := tw_x_istore_n td_72_4 tp_72 rfl
theorem td_72_5 : decode (tw_cd 72) 5 = .ok (.aload_n 0, 1) := by decide +kernel
theorem tz_72_5 : tw_E sc d 72 5 [some (.ref a), x1, x2, x3, x4, x5] st g mi mr Q = tw_E sc d 72 6 [some (.ref a), x1, x2, x3, x4, x5] (.ref a :: st) g mi mr Q := tw_x_aload_n td_72_5 rfl
theorem td_72_6 : decode (tw_cd 72) 6 = .ok (.invokevirtual 34, 3) := by decide +kernel
theorem tz_72_6 : tw_E sc (d + 1) 72 6 [x0, x1, x2, x3, x4, x5] ([.ref a]) g mi mr Q = (tw_kd g a = 4 ∧ tw_E sc d 83 0 [some (.ref a)] [] g mi mr (tw_K sc (d + 1) 72 9 [x0, x1, x2, x3, x4, x5] [] Q)) := tw_x_cv (as := []) (r := []) td_72_6 to_72 tc_4_34 to_83 rfl rfl rfl rfl
theorem td_72_9 : decode (tw_cd 72) 9 = .ok (.aload_n 0, 1) := by decide +kernel
theorem tz_72_9 : tw_E sc d 72 9 [some (.ref a), x1, x2, x3, x4, x5] st g mi mr Q = tw_E sc d 72 10 [some (.ref a), x1, x2, x3, x4, x5] (.ref a :: st) g mi mr Q := tw_x_aload_n td_72_9 rfl
theorem td_72_10 : decode (tw_cd 72) 10 = .ok (.bipush 44, 2) := by decide +kernel
theorem tz_72_10 : tw_E sc d 72 10 [x0, x1, x2, x3, x4, x5] st g mi mr Q = tw_E sc d 72 12 [x0, x1, x2, x3, x4, x5] (.int 44 :: st) g mi mr Q := tw_x_bipush td_72_10 (by decide)
theorem td_72_12 : decode (tw_cd 72) 12 = .ok (.invokevirtual 72, 3) := by decide +kernel
theorem tz_72_12 {a0 : Int32} : tw_E sc (d + 1) 72 12 [x0, x1, x2, x3, x4, x5] ([.int a0, .ref a]) g mi mr Q = (tw_kd g a = 4 ∧ tw_E sc d 82 0 [some (.ref a), some (.int a0)] [] g mi mr (tw_K sc (d + 1) 72 15 [x0, x1, x2, x3, x4, x5] [] Q)) := tw_x_cv (as := [.int a0]) (r := []) td_72_12 to_72 tc_4_72 to_82 rfl rfl rfl rfl
theorem td_72_15 : decode (tw_cd 72) 15 = .ok (.ifCond .eq 13, 3) := by decide +kernel
theorem tz_72_15 : tw_E sc d 72 15 [x0, x1, x2, x3, x4, x5] (.int v :: st) g mi mr Q = if v = 0 then tw_E sc d 72 28 [x0, x1, x2, x3, x4, x5] st g mi mr Q else tw_E sc d 72 18 [x0, x1, x2, x3, x4, x5] st g mi mr Q := tw_x_if_eq td_72_15 (by decide)
theorem td_72_18 : decode (tw_cd 72) 18 = .ok (.aload_n 0, 1) := by decide +kernel
theorem tz_72_18 : tw_E sc d 72 18 [some (.ref a), x1, x2, x3, x4, x5] st g mi mr Q = tw_E sc d 72 19 [some (.ref a), x1, x2, x3, x4, x5] (.ref a :: st) g mi mr Q := tw_x_aload_n td_72_18 rfl
theorem td_72_19 : decode (tw_cd 72) 19 = .ok (.getfield 41, 3) := by decide +kernel
theorem tz_72_19 : tw_E sc d 72 19 [x0, x1, x2, x3, x4, x5] (.ref a :: st) g mi mr Q = (tw_kd g a = 4 ∧ tw_E sc d 72 22 [x0, x1, x2, x3, x4, x5] (.int (mi a 2) :: st) g mi mr Q) := tw_x_geti td_72_19 to_72 tf_4_41 (trf_4_2)
theorem td_72_22 : decode (tw_cd 72) 22 = .ok (.sipush 256, 3) := by decide +kernel
theorem tz_72_22 : tw_E sc d 72 22 [x0, x1, x2, x3, x4, x5] st g mi mr Q = tw_E sc d 72 25 [x0, x1, x2, x3, x4, x5] (.int 256 :: st) g mi mr Q := tw_x_sipush td_72_22 (by decide)
theorem td_72_25 : decode (tw_cd 72) 25 = .ok (.if_icmp .eq 8, 3) := by decide +kernel
theorem tz_72_25 : tw_E sc d 72 25 [x0, x1, x2, x3, x4, x5] (.int w :: .int v :: st) g mi mr Q = if v = w then tw_E sc d 72 33 [x0, x1, x2, x3, x4, x5] st g mi mr Q else tw_E sc d 72 28 [x0, x1, x2, x3, x4, x5] st g mi mr Q := tw_x_ic_eq td_72_25 (by decide)
theorem td_72_28 : decode (tw_cd 72) 28 = .ok (.aload_n 0, 1) := by decide +kernel
theorem tz_72_28 : tw_E sc d 72 28 [some (.ref a), x1, x2, x3, x4, x5] st g mi mr Q = tw_E sc d 72 29 [some (.ref a), x1, x2, x3, x4, x5] (.ref a :: st) g mi mr Q := tw_x_aload_n td_72_28 rfl
theorem td_72_29 : decode (tw_cd 72) 29 = .ok (.invokevirtual 44, 3) := by decide +kernel
theorem tz_72_29 : tw_E sc (d + 1) 72 29 [x0, x1, x2, x3, x4, x5] ([.ref a]) g mi mr Q = (tw_kd g a = 4 ∧ tw_E sc d 81 0 [some (.ref a)] [] g mi mr (tw_K sc (d + 1) 72 32 [x0, x1, x2, x3, x4, x5] [] Q)) := tw_x_cv (as := []) (r := []) td_72_29 to_72 tc_4_44 to_81 rfl rfl rfl rfl
theorem td_72_32 : decode (tw_cd 72) 32 = .ok (.ireturn, 1) := by decide +kernel
theorem tz_72_32 : tw_E sc d 72 32 [x0, x1, x2, x3, x4, x5] ([.int v]) g mi mr Q = Q (some (.int v)) g mi mr := tw_x_iret td_72_32 tr_72
theorem td_72_33 : decode (tw_cd 72) 33 = .ok (.aload_n 0, 1) := by decide +kernel
theorem tz_72_33 : tw_E sc d 72 33 [some (.ref a), x1, x2, x3, x4, x5] st g mi mr Q = tw_E sc d 72 34 [some (.ref a), x1, x2, x3, x4, x5] (.ref a :: st) g mi mr Q := tw_x_aload_n td_72_33 rfl
theorem td_72_34 : decode (tw_cd 72) 34 = .ok (.getfield 69, 3) := by decide +kernel
theorem tz_72_34 : tw_E sc d 72 34 [x0, x1, x2, x3, x4, x5] (.ref a :: st) g mi mr Q = (tw_kd g a = 4 ∧ tw_E sc d 72 37 [x0, x1, x2, x3, x4, x5] (.int (mi a 3) :: st) g mi mr Q) := tw_x_geti td_72_34 to_72 tf_4_69 (trf_4_3)
theorem td_72_37 : decode (tw_cd 72) 37 = .ok (.istore 4, 2) := by decide +kernel
theorem tz_72_37 : tw_E sc d 72 37 [x0, x1, x2, x3, x4, x5] (.int v :: st) g mi mr Q = tw_E sc d 72 39 [x0, x1, x2, x3, some (.int v), x5] st g mi mr Q := tw_x_istore td_72_37 tp_72 rfl
theorem td_72_39 : decode (tw_cd 72) 39 = .ok (.iload 4, 2) := by decide +kernel
theorem tz_72_39 : tw_E sc d 72 39 [x0, x1, x2, x3, some (.int v), x5] st g mi mr Q = tw_E sc d 72 41 [x0, x1, x2, x3, some (.int v), x5] (.int v :: st) g mi mr Q := tw_x_iload td_72_39 rfl
theorem td_72_41 : decode (tw_cd 72) 41 = .ok (.iload_n 3, 1) := by decide +kernel
theorem tz_72_41 : tw_E sc d 72 41 [x0, x1, x2, some (.int v), x4, x5] st g mi mr Q = tw_E sc d 72 42 [x0, x1, x2, some (.int v), x4, x5] (.int v :: st) g mi mr Q := tw_x_iload_n td_72_41 rfl
theorem td_72_42 : decode (tw_cd 72) 42 = .ok (.if_icmp .ge 20, 3) := by decide +kernel
theorem tz_72_42 : tw_E sc d 72 42 [x0, x1, x2, x3, x4, x5] (.int w :: .int v :: st) g mi mr Q = if w ≤ v then tw_E sc d 72 62 [x0, x1, x2, x3, x4, x5] st g mi mr Q else tw_E sc d 72 45 [x0, x1, x2, x3, x4, x5] st g mi mr Q := tw_x_ic_ge td_72_42 (by decide)
theorem td_72_45 : decode (tw_cd 72) 45 = .ok (.aload_n 0, 1) := by decide +kernel
theorem tz_72_45 : tw_E sc d 72 45 [some (.ref a), x1, x2, x3, x4, x5] st g mi mr Q = tw_E sc d 72 46 [some (.ref a), x1, x2, x3, x4, x5] (.ref a :: st) g mi mr Q := tw_x_aload_n td_72_45 rfl
theorem td_72_46 : decode (tw_cd 72) 46 = .ok (.getfield 15, 3) := by decide +kernel
theorem tz_72_46 : tw_E sc d 72 46 [x0, x1, x2, x3, x4, x5] (.ref a :: st) g mi mr Q = (tw_kd g a = 4 ∧ tw_E sc d 72 49 [x0, x1, x2, x3, x4, x5] (.int (mi a 7) :: st) g mi mr Q) := tw_x_geti td_72_46 to_72 tf_4_15 (trf_4_7)
theorem td_72_49 : decode (tw_cd 72) 49 = .ok (.bipush (-9), 2) := by decide +kernel
theorem tz_72_49 : tw_E sc d 72 49 [x0, x1, x2, x3, x4, x5] st g mi mr Q = tw_E sc d 72 51 [x0, x1, x2, x3, x4, x5] (.int (-9) :: st) g mi mr Q := tw_x_bipush td_72_49 (by decide)
theorem td_72_51 : decode (tw_cd 72) 51 = .ok (.if_icmp .ne 11, 3) := by decide +kernel
theorem tz_72_51 : tw_E sc d 72 51 [x0, x1, x2, x3, x4, x5] (.int w :: .int v :: st) g mi mr Q = if ¬ v = w then tw_E sc d 72 62 [x0, x1, x2, x3, x4, x5] st g mi mr Q else tw_E sc d 72 54 [x0, x1, x2, x3, x4, x5] st g mi mr Q := tw_x_ic_ne td_72_51 (by decide)
theorem td_72_54 : decode (tw_cd 72) 54 = .ok (.aload_n 0, 1) := by decide +kernel
theorem tz_72_54 : tw_E sc d 72 54 [some (.ref a), x1, x2, x3, x4, x5] st g mi mr Q = tw_E sc d 72 55 [some (.ref a), x1, x2, x3, x4, x5] (.ref a :: st) g mi mr Q := tw_x_aload_n td_72_54 rfl
theorem td_72_55 : decode (tw_cd 72) 55 = .ok (.aload_n 0, 1) := by decide +kernel
theorem tz_72_55 : tw_E sc d 72 55 [some (.ref a), x1, x2, x3, x4, x5] st g mi mr Q = tw_E sc d 72 56 [some (.ref a), x1, x2, x3, x4, x5] (.ref a :: st) g mi mr Q := tw_x_aload_n td_72_55 rfl
theorem td_72_56 : decode (tw_cd 72) 56 = .ok (.getfield 76, 3) := by decide +kernel
theorem tz_72_56 : tw_E sc d 72 56 [x0, x1, x2, x3, x4, x5] (.ref a :: st) g mi mr Q = (tw_kd g a = 4 ∧ tw_E sc d 72 59 [x0, x1, x2, x3, x4, x5] (.int (mi a 4) :: st) g mi mr Q) := tw_x_geti td_72_56 to_72 tf_4_76 (trf_4_4)
theorem td_72_59 : decode (tw_cd 72) 59 = .ok (.putfield 15, 3) := by decide +kernel
theorem tz_72_59 : tw_E sc d 72 59 [x0, x1, x2, x3, x4, x5] (.int v :: .ref a :: st) g mi mr Q = (tw_kd g a = 4 ∧ tw_E sc d 72 62 [x0, x1, x2, x3, x4, x5] st g (tw_st mi a (tw_st (mi a) 7 v)) mr Q) := tw_x_puti td_72_59 to_72 tf_4_15 rfl rfl
theorem td_72_62 : decode (tw_cd 72) 62 = .ok (.aload_n 0, 1) := by decide +kernel
theorem tz_72_62 : tw_E sc d 72 62 [some (.ref a), x1, x2, x3, x4, x5] st g mi mr Q = tw_E sc d 72 63 [some (.ref a), x1, x2, x3, x4, x5] (.ref a :: st) g mi mr Q := tw_x_aload_n td_72_62 rfl
theorem td_72_63 : decode (tw_cd 72) 63 = .ok (.invokevirtual 34, 3) := by decide +kernel
theorem tz_72_63 : tw_E sc (d + 1) 72 63 [x0, x1, x2, x3, x4, x5] ([.ref a]) g mi mr Q = (tw_kd g a = 4 ∧ tw_E sc d 83 0 [some (.ref a)] [] g mi mr (tw_K sc (d + 1) 72 66 [x0, x1, x2, x3, x4, x5] [] Q)) := tw_x_cv (as := []) (r := []) td_72_63 to_72 tc_4_34 to_83 rfl rfl rfl rfl
theorem td_72_66 : decode (tw_cd 72) 66 = .ok (.aload_n 0, 1) := by decide +kernel
theorem tz_72_66 : tw_E sc d 72 66 [some (.ref a), x1, x2, x3, x4, x5] st g mi mr Q = tw_E sc d 72 67 [some (.ref a), x1, x2, x3, x4, x5] (.ref a :: st) g mi mr Q := tw_x_aload_n td_72_66 rfl
theorem td_72_67 : decode (tw_cd 72) 67 = .ok (.bipush 58, 2) := by decide +kernel
theorem tz_72_67 : tw_E sc d 72 67 [x0, x1, x2, x3, x4, x5] st g mi mr Q = tw_E sc d 72 69 [x0, x1, x2, x3, x4, x5] (.int 58 :: st) g mi mr Q := tw_x_bipush td_72_67 (by decide)
theorem td_72_69 : decode (tw_cd 72) 69 = .ok (.invokevirtual 72, 3) := by decide +kernel
theorem tz_72_69 {a0 : Int32} : tw_E sc (d + 1) 72 69 [x0, x1, x2, x3, x4, x5] ([.int a0, .ref a]) g mi mr Q = (tw_kd g a = 4 ∧ tw_E sc d 82 0 [some (.ref a), some (.int a0)] [] g mi mr (tw_K sc (d + 1) 72 72 [x0, x1, x2, x3, x4, x5] [] Q)) := tw_x_cv (as := [.int a0]) (r := []) td_72_69 to_72 tc_4_72 to_82 rfl rfl rfl rfl
theorem td_72_72 : decode (tw_cd 72) 72 = .ok (.ifCond .ne 8, 3) := by decide +kernel
theorem tz_72_72 : tw_E sc d 72 72 [x0, x1, x2, x3, x4, x5] (.int v :: st) g mi mr Q = if ¬ v = 0 then tw_E sc d 72 80 [x0, x1, x2, x3, x4, x5] st g mi mr Q else tw_E sc d 72 75 [x0, x1, x2, x3, x4, x5] st g mi mr Q := tw_x_if_ne td_72_72 (by decide)
theorem td_72_75 : decode (tw_cd 72) 75 = .ok (.aload_n 0, 1) := by decide +kernel
theorem tz_72_75 : tw_E sc d 72 75 [some (.ref a), x1, x2, x3, x4, x5] st g mi mr Q = tw_E sc d 72 76 [some (.ref a), x1, x2, x3, x4, x5] (.ref a :: st) g mi mr Q := tw_x_aload_n td_72_75 rfl
theorem td_72_76 : decode (tw_cd 72) 76 = .ok (.invokevirtual 44, 3) := by decide +kernel
theorem tz_72_76 : tw_E sc (d + 1) 72 76 [x0, x1, x2, x3, x4, x5] ([.ref a]) g mi mr Q = (tw_kd g a = 4 ∧ tw_E sc d 81 0 [some (.ref a)] [] g mi mr (tw_K sc (d + 1) 72 79 [x0, x1, x2, x3, x4, x5] [] Q)) := tw_x_cv (as := []) (r := []) td_72_76 to_72 tc_4_44 to_81 rfl rfl rfl rfl
theorem td_72_79 : decode (tw_cd 72) 79 = .ok (.ireturn, 1) := by decide +kernel
theorem tz_72_79 : tw_E sc d 72 79 [x0, x1, x2, x3, x4, x5] ([.int v]) g mi mr Q = Q (some (.int v)) g mi mr := tw_x_iret td_72_79 tr_72
theorem td_72_80 : decode (tw_cd 72) 80 = .ok (.aload_n 0, 1) := by decide +kernel
theorem tz_72_80 : tw_E sc d 72 80 [some (.ref a), x1, x2, x3, x4, x5] st g mi mr Q = tw_E sc d 72 81 [some (.ref a), x1, x2, x3, x4, x5] (.ref a :: st) g mi mr Q := tw_x_aload_n td_72_80 rfl
theorem td_72_81 : decode (tw_cd 72) 81 = .ok (.iload_n 2, 1) := by decide +kernel
theorem tz_72_81 : tw_E sc d 72 81 [x0, x1, some (.int v), x3, x4, x5] st g mi mr Q = tw_E sc d 72 82 [x0, x1, some (.int v), x3, x4, x5] (.int v :: st) g mi mr Q := tw_x_iload_n td_72_81 rfl
theorem td_72_82 : decode (tw_cd 72) 82 = .ok (.invokevirtual 51, 3) := by decide +kernel
theorem tz_72_82 {a0 : Int32} : tw_E sc (d + 1) 72 82 [x0, x1, x2, x3, x4, x5] ([.int a0, .ref a]) g mi mr Q = (tw_kd g a = 4 ∧ tw_E sc d 73 0 [some (.ref a), some (.int a0), none, none, none] [] g mi mr (tw_K sc (d + 1) 72 85 [x0, x1, x2, x3, x4, x5] [] Q)) := tw_x_cv (as := [.int a0]) (r := []) td_72_82 to_72 tc_4_51 to_73 rfl rfl rfl rfl
theorem td_72_85 : decode (tw_cd 72) 85 = .ok (.istore 5, 2) := by decide +kernel
theorem tz_72_85 : tw_E sc d 72 85 [x0, x1, x2, x3, x4, x5] (.int v :: st) g mi mr Q = tw_E sc d 72 87 [x0, x1, x2, x3, x4, some (.int v)] st g mi mr Q := tw_x_istore td_72_85 tp_72 rfl
theorem td_72_87 : decode (tw_cd 72) 87 = .ok (.iload 5, 2) := by decide +kernel
theorem tz_72_87 : tw_E sc d 72 87 [x0, x1, x2, x3, x4, some (.int v)] st g mi mr Q = tw_E sc d 72 89 [x0, x1, x2, x3, x4, some (.int v)] (.int v :: st) g mi mr Q := tw_x_iload td_72_87 rfl
theorem td_72_89 : decode (tw_cd 72) 89 = .ok (.ifCond .ge 8, 3) := by decide +kernel
theorem tz_72_89 : tw_E sc d 72 89 [x0, x1, x2, x3, x4, x5] (.int v :: st) g mi mr Q = if 0 ≤ v then tw_E sc d 72 97 [x0, x1, x2, x3, x4, x5] st g mi mr Q else tw_E sc d 72 92 [x0, x1, x2, x3, x4, x5] st g mi mr Q := tw_x_if_ge td_72_89 (by decide)
theorem td_72_92 : decode (tw_cd 72) 92 = .ok (.iload 5, 2) := by decide +kernel
theorem tz_72_92 : tw_E sc d 72 92 [x0, x1, x2, x3, x4, some (.int v)] st g mi mr Q = tw_E sc d 72 94 [x0, x1, x2, x3, x4, some (.int v)] (.int v :: st) g mi mr Q := tw_x_iload td_72_92 rfl
theorem td_72_94 : decode (tw_cd 72) 94 = .ok (.goto 15, 3) := by decide +kernel
theorem tz_72_94 : tw_E sc d 72 94 [x0, x1, x2, x3, x4, x5] st g mi mr Q = tw_E sc d 72 109 [x0, x1, x2, x3, x4, x5] st g mi mr Q := tw_x_goto td_72_94 (by decide)
theorem td_72_97 : decode (tw_cd 72) 97 = .ok (.aload_n 0, 1) := by decide +kernel
theorem tz_72_97 : tw_E sc d 72 97 [some (.ref a), x1, x2, x3, x4, x5] st g mi mr Q = tw_E sc d 72 98 [some (.ref a), x1, x2, x3, x4, x5] (.ref a :: st) g mi mr Q := tw_x_aload_n td_72_97 rfl
theorem td_72_98 : decode (tw_cd 72) 98 = .ok (.bipush 7, 2) := by decide +kernel
theorem tz_72_98 : tw_E sc d 72 98 [x0, x1, x2, x3, x4, x5] st g mi mr Q = tw_E sc d 72 100 [x0, x1, x2, x3, x4, x5] (.int 7 :: st) g mi mr Q := tw_x_bipush td_72_98 (by decide)
theorem td_72_100 : decode (tw_cd 72) 100 = .ok (.iload_n 1, 1) := by decide +kernel
theorem tz_72_100 : tw_E sc d 72 100 [x0, some (.int v), x2, x3, x4, x5] st g mi mr Q = tw_E sc d 72 101 [x0, some (.int v), x2, x3, x4, x5] (.int v :: st) g mi mr Q := tw_x_iload_n td_72_100 rfl
theorem td_72_101 : decode (tw_cd 72) 101 = .ok (.iload 5, 2) := by decide +kernel
theorem tz_72_101 : tw_E sc d 72 101 [x0, x1, x2, x3, x4, some (.int v)] st g mi mr Q = tw_E sc d 72 103 [x0, x1, x2, x3, x4, some (.int v)] (.int v :: st) g mi mr Q := tw_x_iload td_72_101 rfl
theorem td_72_103 : decode (tw_cd 72) 103 = .ok (.iload_n 3, 1) := by decide +kernel
theorem tz_72_103 : tw_E sc d 72 103 [x0, x1, x2, some (.int v), x4, x5] st g mi mr Q = tw_E sc d 72 104 [x0, x1, x2, some (.int v), x4, x5] (.int v :: st) g mi mr Q := tw_x_iload_n td_72_103 rfl
theorem td_72_104 : decode (tw_cd 72) 104 = .ok (.iload 4, 2) := by decide +kernel
theorem tz_72_104 : tw_E sc d 72 104 [x0, x1, x2, x3, some (.int v), x5] st g mi mr Q = tw_E sc d 72 106 [x0, x1, x2, x3, some (.int v), x5] (.int v :: st) g mi mr Q := tw_x_iload td_72_104 rfl
theorem td_72_106 : decode (tw_cd 72) 106 = .ok (.invokevirtual 65, 3) := by decide +kernel
theorem tz_72_106 {a0 : Int32} {a1 : Int32} {a2 : Int32} {a3 : Int32} {a4 : Int32} : tw_E sc (d + 1) 72 106 [x0, x1, x2, x3, x4, x5] ([.int a4, .int a3, .int a2, .int a1, .int a0, .ref a]) g mi mr Q = (tw_kd g a = 4 ∧ tw_E sc d 80 0 [some (.ref a), some (.int a0), some (.int a1), some (.int a2), some (.int a3), some (.int a4), none] [] g mi mr (tw_K sc (d + 1) 72 109 [x0, x1, x2, x3, x4, x5] [] Q)) := tw_x_cv (as := [.int a0, .int a1, .int a2, .int a3, .int a4]) (r := []) td_72_106 to_72 tc_4_65 to_80 rfl rfl rfl rfl
theorem td_72_109 : decode (tw_cd 72) 109 = .ok (.ireturn, 1) := by decide +kernel
theorem tz_72_109 : tw_E sc d 72 109 [x0, x1, x2, x3, x4, x5] ([.int v]) g mi mr Q = Q (some (.int v)) g mi mr := tw_x_iret td_72_109 tr_72
end tz_72
-- 73: Re_readEither
section tz_73
variable {sc : Nat × (Nat → Int32)} {d : Nat} {x0 x1 x2 x3 x4 : Option Value} {st : List Value} {g : tw_G} {mi : tw_I} {mr : tw_Q} {Q : Option Value → tw_G → tw_I → tw_Q → Prop} {v w u : Int32} {a b : Nat} {j h : Int64} {s1 s2 s3 s4 : Value}
theorem td_73_0 : decode (tw_cd 73) 0 = .ok (.aload_n 0, 1) := by decide +kernel
theorem tz_73_0 : tw_E sc d 73 0 [some (.ref a), x1, x2, x3, x4] st g mi mr Q = tw_E sc d 73 1 [some (.ref a), x1, x2, x3, x4] (.ref a :: st) g mi mr Q := tw_x_aload_n td_73_0 rfl
theorem td_73_1 : decode (tw_cd 73) 1 = .ok (.iload_n 1, 1) := by decide +kernel
theorem tz_73_1 : tw_E sc d 73 1 [x0, some (.int v), x2, x3, x4] st g mi mr Q = tw_E sc d 73 2 [x0, some (.int v), x2, x3, x4] (.int v :: st) g mi mr Q := tw_x_iload_n td_73_1 rfl
theorem td_73_2 : decode (tw_cd 73) 2 = .ok (.invokevirtual 79, 3) := by decide +kernel
theorem tz_73_2 {a0 : Int32} : tw_E sc (d + 1) 73 2 [x0, x1, x2, x3, x4] ([.int a0, .ref a]) g mi mr Q = (tw_kd g a = 4 ∧ tw_E sc d 74 0 [some (.ref a), some (.int a0), none, none, none] [] g mi mr (tw_K sc (d + 1) 73 5 [x0, x1, x2, x3, x4] [] Q)) := tw_x_cv (as := [.int a0]) (r := []) td_73_2 to_73 tc_4_79 to_74 rfl rfl rfl rfl
theorem td_73_5 : decode (tw_cd 73) 5 = .ok (.istore_n 2, 1) := by decide +kernel
theorem tz_73_5 : tw_E sc d 73 5 [x0, x1, x2, x3, x4] (.int v :: st) g mi mr Q = tw_E sc d 73 6 [x0, x1, some (.int v), x3, x4] st g mi mr Q := tw_x_istore_n td_73_5 tp_73 rfl
theorem td_73_6 : decode (tw_cd 73) 6 = .ok (.iconst 0, 1) := by decide +kernel
theorem tz_73_6 : tw_E sc d 73 6 [x0, x1, x2, x3, x4] st g mi mr Q = tw_E sc d 73 7 [x0, x1, x2, x3, x4] (.int 0 :: st) g mi mr Q := tw_x_iconst td_73_6 (by decide)
theorem td_73_7 : decode (tw_cd 73) 7 = .ok (.istore_n 3, 1) := by decide +kernel
theorem tz_73_7 : tw_E sc d 73 7 [x0, x1, x2, x3, x4] (.int v :: st) g mi mr Q = tw_E sc d 73 8 [x0, x1, x2, some (.int v), x4] st g mi mr Q := tw_x_istore_n td_73_7 tp_73 rfl
theorem td_73_8 : decode (tw_cd 73) 8 = .ok (.iload_n 3, 1) := by decide +kernel
theorem tz_73_8 : tw_E sc d 73 8 [x0, x1, x2, some (.int v), x4] st g mi mr Q = tw_E sc d 73 9 [x0, x1, x2, some (.int v), x4] (.int v :: st) g mi mr Q := tw_x_iload_n td_73_8 rfl
theorem td_73_9 : decode (tw_cd 73) 9 = .ok (.bipush 60, 2) := by decide +kernel
theorem tz_73_9 : tw_E sc d 73 9 [x0, x1, x2, x3, x4] st g mi mr Q = tw_E sc d 73 11 [x0, x1, x2, x3, x4] (.int 60 :: st) g mi mr Q := tw_x_bipush td_73_9 (by decide)
theorem td_73_11 : decode (tw_cd 73) 11 = .ok (.if_icmp .ge 56, 3) := by decide +kernel
theorem tz_73_11 : tw_E sc d 73 11 [x0, x1, x2, x3, x4] (.int w :: .int v :: st) g mi mr Q = if w ≤ v then tw_E sc d 73 67 [x0, x1, x2, x3, x4] st g mi mr Q else tw_E sc d 73 14 [x0, x1, x2, x3, x4] st g mi mr Q := tw_x_ic_ge td_73_11 (by decide)
theorem td_73_14 : decode (tw_cd 73) 14 = .ok (.iload_n 2, 1) := by decide +kernel
theorem tz_73_14 : tw_E sc d 73 14 [x0, x1, some (.int v), x3, x4] st g mi mr Q = tw_E sc d 73 15 [x0, x1, some (.int v), x3, x4] (.int v :: st) g mi mr Q := tw_x_iload_n td_73_14 rfl
theorem td_73_15 : decode (tw_cd 73) 15 = .ok (.ifCond .lt 52, 3) := by decide +kernel
theorem tz_73_15 : tw_E sc d 73 15 [x0, x1, x2, x3, x4] (.int v :: st) g mi mr Q = if v < 0 then tw_E sc d 73 67 [x0, x1, x2, x3, x4] st g mi mr Q else tw_E sc d 73 18 [x0, x1, x2, x3, x4] st g mi mr Q := tw_x_if_lt td_73_15 (by decide)
theorem td_73_18 : decode (tw_cd 73) 18 = .ok (.aload_n 0, 1) := by decide +kernel
theorem tz_73_18 : tw_E sc d 73 18 [some (.ref a), x1, x2, x3, x4] st g mi mr Q = tw_E sc d 73 19 [some (.ref a), x1, x2, x3, x4] (.ref a :: st) g mi mr Q := tw_x_aload_n td_73_18 rfl
theorem td_73_19 : decode (tw_cd 73) 19 = .ok (.getfield 41, 3) := by decide +kernel
theorem tz_73_19 : tw_E sc d 73 19 [x0, x1, x2, x3, x4] (.ref a :: st) g mi mr Q = (tw_kd g a = 4 ∧ tw_E sc d 73 22 [x0, x1, x2, x3, x4] (.int (mi a 2) :: st) g mi mr Q) := tw_x_geti td_73_19 to_73 tf_4_41 (trf_4_2)
theorem td_73_22 : decode (tw_cd 73) 22 = .ok (.bipush 47, 2) := by decide +kernel
theorem tz_73_22 : tw_E sc d 73 22 [x0, x1, x2, x3, x4] st g mi mr Q = tw_E sc d 73 24 [x0, x1, x2, x3, x4] (.int 47 :: st) g mi mr Q := tw_x_bipush td_73_22 (by decide)
theorem td_73_24 : decode (tw_cd 73) 24 = .ok (.if_icmp .ne 43, 3) := by decide +kernel
theorem tz_73_24 : tw_E sc d 73 24 [x0, x1, x2, x3, x4] (.int w :: .int v :: st) g mi mr Q = if ¬ v = w then tw_E sc d 73 67 [x0, x1, x2, x3, x4] st g mi mr Q else tw_E sc d 73 27 [x0, x1, x2, x3, x4] st g mi mr Q := tw_x_ic_ne td_73_24 (by decide)
theorem td_73_27 : decode (tw_cd 73) 27 = .ok (.aload_n 0, 1) := by decide +kernel
theorem tz_73_27 : tw_E sc d 73 27 [some (.ref a), x1, x2, x3, x4] st g mi mr Q = tw_E sc d 73 28 [some (.ref a), x1, x2, x3, x4] (.ref a :: st) g mi mr Q := tw_x_aload_n td_73_27 rfl
theorem td_73_28 : decode (tw_cd 73) 28 = .ok (.invokevirtual 34, 3) := by decide +kernel
theorem tz_73_28 : tw_E sc (d + 1) 73 28 [x0, x1, x2, x3, x4] ([.ref a]) g mi mr Q = (tw_kd g a = 4 ∧ tw_E sc d 83 0 [some (.ref a)] [] g mi mr (tw_K sc (d + 1) 73 31 [x0, x1, x2, x3, x4] [] Q)) := tw_x_cv (as := []) (r := []) td_73_28 to_73 tc_4_34 to_83 rfl rfl rfl rfl
theorem td_73_31 : decode (tw_cd 73) 31 = .ok (.aload_n 0, 1) := by decide +kernel
theorem tz_73_31 : tw_E sc d 73 31 [some (.ref a), x1, x2, x3, x4] st g mi mr Q = tw_E sc d 73 32 [some (.ref a), x1, x2, x3, x4] (.ref a :: st) g mi mr Q := tw_x_aload_n td_73_31 rfl
theorem td_73_32 : decode (tw_cd 73) 32 = .ok (.iload_n 1, 1) := by decide +kernel
theorem tz_73_32 : tw_E sc d 73 32 [x0, some (.int v), x2, x3, x4] st g mi mr Q = tw_E sc d 73 33 [x0, some (.int v), x2, x3, x4] (.int v :: st) g mi mr Q := tw_x_iload_n td_73_32 rfl
theorem td_73_33 : decode (tw_cd 73) 33 = .ok (.invokevirtual 79, 3) := by decide +kernel
theorem tz_73_33 {a0 : Int32} : tw_E sc (d + 1) 73 33 [x0, x1, x2, x3, x4] ([.int a0, .ref a]) g mi mr Q = (tw_kd g a = 4 ∧ tw_E sc d 74 0 [some (.ref a), some (.int a0), none, none, none] [] g mi mr (tw_K sc (d + 1) 73 36 [x0, x1, x2, x3, x4] [] Q)) := tw_x_cv (as := [.int a0]) (r := []) td_73_33 to_73 tc_4_79 to_74 rfl rfl rfl rfl
theorem td_73_36 : decode (tw_cd 73) 36 = .ok (.istore 4, 2) := by decide +kernel
theorem tz_73_36 : tw_E sc d 73 36 [x0, x1, x2, x3, x4] (.int v :: st) g mi mr Q = tw_E sc d 73 38 [x0, x1, x2, x3, some (.int v)] st g mi mr Q := tw_x_istore td_73_36 tp_73 rfl
theorem td_73_38 : decode (tw_cd 73) 38 = .ok (.iload 4, 2) := by decide +kernel
theorem tz_73_38 : tw_E sc d 73 38 [x0, x1, x2, x3, some (.int v)] st g mi mr Q = tw_E sc d 73 40 [x0, x1, x2, x3, some (.int v)] (.int v :: st) g mi mr Q := tw_x_iload td_73_38 rfl
theorem td_73_40 : decode (tw_cd 73) 40 = .ok (.ifCond .ge 8, 3) := by decide +kernel
theorem tz_73_40 : tw_E sc d 73 40 [x0, x1, x2, x3, x4] (.int v :: st) g mi mr Q = if 0 ≤ v then tw_E sc d 73 48 [x0, x1, x2, x3, x4] st g mi mr Q else tw_E sc d 73 43 [x0, x1, x2, x3, x4] st g mi mr Q := tw_x_if_ge td_73_40 (by decide)
theorem td_73_43 : decode (tw_cd 73) 43 = .ok (.iload 4, 2) := by decide +kernel
theorem tz_73_43 : tw_E sc d 73 43 [x0, x1, x2, x3, some (.int v)] st g mi mr Q = tw_E sc d 73 45 [x0, x1, x2, x3, some (.int v)] (.int v :: st) g mi mr Q := tw_x_iload td_73_43 rfl
theorem td_73_45 : decode (tw_cd 73) 45 = .ok (.goto 15, 3) := by decide +kernel
theorem tz_73_45 : tw_E sc d 73 45 [x0, x1, x2, x3, x4] st g mi mr Q = tw_E sc d 73 60 [x0, x1, x2, x3, x4] st g mi mr Q := tw_x_goto td_73_45 (by decide)
theorem td_73_48 : decode (tw_cd 73) 48 = .ok (.aload_n 0, 1) := by decide +kernel
theorem tz_73_48 : tw_E sc d 73 48 [some (.ref a), x1, x2, x3, x4] st g mi mr Q = tw_E sc d 73 49 [some (.ref a), x1, x2, x3, x4] (.ref a :: st) g mi mr Q := tw_x_aload_n td_73_48 rfl
theorem td_73_49 : decode (tw_cd 73) 49 = .ok (.iconst 4, 1) := by decide +kernel
theorem tz_73_49 : tw_E sc d 73 49 [x0, x1, x2, x3, x4] st g mi mr Q = tw_E sc d 73 50 [x0, x1, x2, x3, x4] (.int 4 :: st) g mi mr Q := tw_x_iconst td_73_49 (by decide)
theorem td_73_50 : decode (tw_cd 73) 50 = .ok (.iload_n 2, 1) := by decide +kernel
theorem tz_73_50 : tw_E sc d 73 50 [x0, x1, some (.int v), x3, x4] st g mi mr Q = tw_E sc d 73 51 [x0, x1, some (.int v), x3, x4] (.int v :: st) g mi mr Q := tw_x_iload_n td_73_50 rfl
theorem td_73_51 : decode (tw_cd 73) 51 = .ok (.iload 4, 2) := by decide +kernel
theorem tz_73_51 : tw_E sc d 73 51 [x0, x1, x2, x3, some (.int v)] st g mi mr Q = tw_E sc d 73 53 [x0, x1, x2, x3, some (.int v)] (.int v :: st) g mi mr Q := tw_x_iload td_73_51 rfl
theorem td_73_53 : decode (tw_cd 73) 53 = .ok (.bipush (-9), 2) := by decide +kernel
theorem tz_73_53 : tw_E sc d 73 53 [x0, x1, x2, x3, x4] st g mi mr Q = tw_E sc d 73 55 [x0, x1, x2, x3, x4] (.int (-9) :: st) g mi mr Q := tw_x_bipush td_73_53 (by decide)
theorem td_73_55 : decode (tw_cd 73) 55 = .ok (.bipush (-9), 2) := by decide +kernel
theorem tz_73_55 : tw_E sc d 73 55 [x0, x1, x2, x3, x4] st g mi mr Q = tw_E sc d 73 57 [x0, x1, x2, x3, x4] (.int (-9) :: st) g mi mr Q := tw_x_bipush td_73_55 (by decide)
theorem td_73_57 : decode (tw_cd 73) 57 = .ok (.invokevirtual 65, 3) := by decide +kernel
theorem tz_73_57 {a0 : Int32} {a1 : Int32} {a2 : Int32} {a3 : Int32} {a4 : Int32} : tw_E sc (d + 1) 73 57 [x0, x1, x2, x3, x4] ([.int a4, .int a3, .int a2, .int a1, .int a0, .ref a]) g mi mr Q = (tw_kd g a = 4 ∧ tw_E sc d 80 0 [some (.ref a), some (.int a0), some (.int a1), some (.int a2), some (.int a3), some (.int a4), none] [] g mi mr (tw_K sc (d + 1) 73 60 [x0, x1, x2, x3, x4] [] Q)) := tw_x_cv (as := [.int a0, .int a1, .int a2, .int a3, .int a4]) (r := []) td_73_57 to_73 tc_4_65 to_80 rfl rfl rfl rfl
theorem td_73_60 : decode (tw_cd 73) 60 = .ok (.istore_n 2, 1) := by decide +kernel
theorem tz_73_60 : tw_E sc d 73 60 [x0, x1, x2, x3, x4] (.int v :: st) g mi mr Q = tw_E sc d 73 61 [x0, x1, some (.int v), x3, x4] st g mi mr Q := tw_x_istore_n td_73_60 tp_73 rfl
theorem td_73_61 : decode (tw_cd 73) 61 = .ok (.iinc 3 1, 3) := by decide +kernel
theorem tz_73_61 : tw_E sc d 73 61 [x0, x1, x2, some (.int v), x4] st g mi mr Q = tw_E sc d 73 64 [x0, x1, x2, some (.int (v + 1)), x4] st g mi mr Q := tw_x_iinc td_73_61 rfl (by first | rfl | (exact congrArg (v + ·) (by decide))) tp_73 rfl
theorem td_73_64 : decode (tw_cd 73) 64 = .ok (.goto (-56), 3) := by decide +kernel
theorem tz_73_64 : tw_E sc d 73 64 [x0, x1, x2, x3, x4] st g mi mr Q = tw_E sc d 73 8 [x0, x1, x2, x3, x4] st g mi mr Q := tw_x_goto td_73_64 (by decide)
theorem td_73_67 : decode (tw_cd 73) 67 = .ok (.iload_n 2, 1) := by decide +kernel
theorem tz_73_67 : tw_E sc d 73 67 [x0, x1, some (.int v), x3, x4] st g mi mr Q = tw_E sc d 73 68 [x0, x1, some (.int v), x3, x4] (.int v :: st) g mi mr Q := tw_x_iload_n td_73_67 rfl
theorem td_73_68 : decode (tw_cd 73) 68 = .ok (.ireturn, 1) := by decide +kernel
theorem tz_73_68 : tw_E sc d 73 68 [x0, x1, x2, x3, x4] ([.int v]) g mi mr Q = Q (some (.int v)) g mi mr := tw_x_iret td_73_68 tr_73
end tz_73
-- 74: Re_readBoth
section tz_74
variable {sc : Nat × (Nat → Int32)} {d : Nat} {x0 x1 x2 x3 x4 : Option Value} {st : List Value} {g : tw_G} {mi : tw_I} {mr : tw_Q} {Q : Option Value → tw_G → tw_I → tw_Q → Prop} {v w u : Int32} {a b : Nat} {j h : Int64} {s1 s2 s3 s4 : Value}
theorem td_74_0 : decode (tw_cd 74) 0 = .ok (.aload_n 0, 1) := by decide +kernel
theorem tz_74_0 : tw_E sc d 74 0 [some (.ref a), x1, x2, x3, x4] st g mi mr Q = tw_E sc d 74 1 [some (.ref a), x1, x2, x3, x4] (.ref a :: st) g mi mr Q := tw_x_aload_n td_74_0 rfl
theorem td_74_1 : decode (tw_cd 74) 1 = .ok (.iload_n 1, 1) := by decide +kernel
theorem tz_74_1 : tw_E sc d 74 1 [x0, some (.int v), x2, x3, x4] st g mi mr Q = tw_E sc d 74 2 [x0, some (.int v), x2, x3, x4] (.int v :: st) g mi mr Q := tw_x_iload_n td_74_1 rfl
theorem td_74_2 : decode (tw_cd 74) 2 = .ok (.invokevirtual 82, 3) := by decide +kernel
theorem tz_74_2 {a0 : Int32} : tw_E sc (d + 1) 74 2 [x0, x1, x2, x3, x4] ([.int a0, .ref a]) g mi mr Q = (tw_kd g a = 4 ∧ tw_E sc d 75 0 [some (.ref a), some (.int a0)] [] g mi mr (tw_K sc (d + 1) 74 5 [x0, x1, x2, x3, x4] [] Q)) := tw_x_cv (as := [.int a0]) (r := []) td_74_2 to_74 tc_4_82 to_75 rfl rfl rfl rfl
theorem td_74_5 : decode (tw_cd 74) 5 = .ok (.istore_n 2, 1) := by decide +kernel
theorem tz_74_5 : tw_E sc d 74 5 [x0, x1, x2, x3, x4] (.int v :: st) g mi mr Q = tw_E sc d 74 6 [x0, x1, some (.int v), x3, x4] st g mi mr Q := tw_x_istore_n td_74_5 tp_74 rfl
theorem td_74_6 : decode (tw_cd 74) 6 = .ok (.iconst 0, 1) := by decide +kernel
theorem tz_74_6 : tw_E sc d 74 6 [x0, x1, x2, x3, x4] st g mi mr Q = tw_E sc d 74 7 [x0, x1, x2, x3, x4] (.int 0 :: st) g mi mr Q := tw_x_iconst td_74_6 (by decide)
theorem td_74_7 : decode (tw_cd 74) 7 = .ok (.istore_n 3, 1) := by decide +kernel
theorem tz_74_7 : tw_E sc d 74 7 [x0, x1, x2, x3, x4] (.int v :: st) g mi mr Q = tw_E sc d 74 8 [x0, x1, x2, some (.int v), x4] st g mi mr Q := tw_x_istore_n td_74_7 tp_74 rfl
theorem td_74_8 : decode (tw_cd 74) 8 = .ok (.iload_n 3, 1) := by decide +kernel
theorem tz_74_8 : tw_E sc d 74 8 [x0, x1, x2, some (.int v), x4] st g mi mr Q = tw_E sc d 74 9 [x0, x1, x2, some (.int v), x4] (.int v :: st) g mi mr Q := tw_x_iload_n td_74_8 rfl
theorem td_74_9 : decode (tw_cd 74) 9 = .ok (.bipush 60, 2) := by decide +kernel
theorem tz_74_9 : tw_E sc d 74 9 [x0, x1, x2, x3, x4] st g mi mr Q = tw_E sc d 74 11 [x0, x1, x2, x3, x4] (.int 60 :: st) g mi mr Q := tw_x_bipush td_74_9 (by decide)
theorem td_74_11 : decode (tw_cd 74) 11 = .ok (.if_icmp .ge 56, 3) := by decide +kernel
theorem tz_74_11 : tw_E sc d 74 11 [x0, x1, x2, x3, x4] (.int w :: .int v :: st) g mi mr Q = if w ≤ v then tw_E sc d 74 67 [x0, x1, x2, x3, x4] st g mi mr Q else tw_E sc d 74 14 [x0, x1, x2, x3, x4] st g mi mr Q := tw_x_ic_ge td_74_11 (by decide)
theorem td_74_14 : decode (tw_cd 74) 14 = .ok (.iload_n 2, 1) := by decide +kernel
theorem tz_74_14 : tw_E sc d 74 14 [x0, x1, some (.int v), x3, x4] st g mi mr Q = tw_E sc d 74 15 [x0, x1, some (.int v), x3, x4] (.int v :: st) g mi mr Q := tw_x_iload_n td_74_14 rfl
theorem td_74_15 : decode (tw_cd 74) 15 = .ok (.ifCond .lt 52, 3) := by decide +kernel
theorem tz_74_15 : tw_E sc d 74 15 [x0, x1, x2, x3, x4] (.int v :: st) g mi mr Q = if v < 0 then tw_E sc d 74 67 [x0, x1, x2, x3, x4] st g mi mr Q else tw_E sc d 74 18 [x0, x1, x2, x3, x4] st g mi mr Q := tw_x_if_lt td_74_15 (by decide)
theorem td_74_18 : decode (tw_cd 74) 18 = .ok (.aload_n 0, 1) := by decide +kernel
theorem tz_74_18 : tw_E sc d 74 18 [some (.ref a), x1, x2, x3, x4] st g mi mr Q = tw_E sc d 74 19 [some (.ref a), x1, x2, x3, x4] (.ref a :: st) g mi mr Q := tw_x_aload_n td_74_18 rfl
theorem td_74_19 : decode (tw_cd 74) 19 = .ok (.getfield 41, 3) := by decide +kernel
theorem tz_74_19 : tw_E sc d 74 19 [x0, x1, x2, x3, x4] (.ref a :: st) g mi mr Q = (tw_kd g a = 4 ∧ tw_E sc d 74 22 [x0, x1, x2, x3, x4] (.int (mi a 2) :: st) g mi mr Q) := tw_x_geti td_74_19 to_74 tf_4_41 (trf_4_2)
theorem td_74_22 : decode (tw_cd 74) 22 = .ok (.bipush 38, 2) := by decide +kernel
theorem tz_74_22 : tw_E sc d 74 22 [x0, x1, x2, x3, x4] st g mi mr Q = tw_E sc d 74 24 [x0, x1, x2, x3, x4] (.int 38 :: st) g mi mr Q := tw_x_bipush td_74_22 (by decide)
theorem td_74_24 : decode (tw_cd 74) 24 = .ok (.if_icmp .ne 43, 3) := by decide +kernel
theorem tz_74_24 : tw_E sc d 74 24 [x0, x1, x2, x3, x4] (.int w :: .int v :: st) g mi mr Q = if ¬ v = w then tw_E sc d 74 67 [x0, x1, x2, x3, x4] st g mi mr Q else tw_E sc d 74 27 [x0, x1, x2, x3, x4] st g mi mr Q := tw_x_ic_ne td_74_24 (by decide)
theorem td_74_27 : decode (tw_cd 74) 27 = .ok (.aload_n 0, 1) := by decide +kernel
theorem tz_74_27 : tw_E sc d 74 27 [some (.ref a), x1, x2, x3, x4] st g mi mr Q = tw_E sc d 74 28 [some (.ref a), x1, x2, x3, x4] (.ref a :: st) g mi mr Q := tw_x_aload_n td_74_27 rfl
theorem td_74_28 : decode (tw_cd 74) 28 = .ok (.invokevirtual 34, 3) := by decide +kernel
theorem tz_74_28 : tw_E sc (d + 1) 74 28 [x0, x1, x2, x3, x4] ([.ref a]) g mi mr Q = (tw_kd g a = 4 ∧ tw_E sc d 83 0 [some (.ref a)] [] g mi mr (tw_K sc (d + 1) 74 31 [x0, x1, x2, x3, x4] [] Q)) := tw_x_cv (as := []) (r := []) td_74_28 to_74 tc_4_34 to_83 rfl rfl rfl rfl
theorem td_74_31 : decode (tw_cd 74) 31 = .ok (.aload_n 0, 1) := by decide +kernel
theorem tz_74_31 : tw_E sc d 74 31 [some (.ref a), x1, x2, x3, x4] st g mi mr Q = tw_E sc d 74 32 [some (.ref a), x1, x2, x3, x4] (.ref a :: st) g mi mr Q := tw_x_aload_n td_74_31 rfl
theorem td_74_32 : decode (tw_cd 74) 32 = .ok (.iload_n 1, 1) := by decide +kernel
theorem tz_74_32 : tw_E sc d 74 32 [x0, some (.int v), x2, x3, x4] st g mi mr Q = tw_E sc d 74 33 [x0, some (.int v), x2, x3, x4] (.int v :: st) g mi mr Q := tw_x_iload_n td_74_32 rfl
theorem td_74_33 : decode (tw_cd 74) 33 = .ok (.invokevirtual 82, 3) := by decide +kernel
theorem tz_74_33 {a0 : Int32} : tw_E sc (d + 1) 74 33 [x0, x1, x2, x3, x4] ([.int a0, .ref a]) g mi mr Q = (tw_kd g a = 4 ∧ tw_E sc d 75 0 [some (.ref a), some (.int a0)] [] g mi mr (tw_K sc (d + 1) 74 36 [x0, x1, x2, x3, x4] [] Q)) := tw_x_cv (as := [.int a0]) (r := []) td_74_33 to_74 tc_4_82 to_75 rfl rfl rfl rfl
theorem td_74_36 : decode (tw_cd 74) 36 = .ok (.istore 4, 2) := by decide +kernel
theorem tz_74_36 : tw_E sc d 74 36 [x0, x1, x2, x3, x4] (.int v :: st) g mi mr Q = tw_E sc d 74 38 [x0, x1, x2, x3, some (.int v)] st g mi mr Q := tw_x_istore td_74_36 tp_74 rfl
theorem td_74_38 : decode (tw_cd 74) 38 = .ok (.iload 4, 2) := by decide +kernel
theorem tz_74_38 : tw_E sc d 74 38 [x0, x1, x2, x3, some (.int v)] st g mi mr Q = tw_E sc d 74 40 [x0, x1, x2, x3, some (.int v)] (.int v :: st) g mi mr Q := tw_x_iload td_74_38 rfl
theorem td_74_40 : decode (tw_cd 74) 40 = .ok (.ifCond .ge 8, 3) := by decide +kernel
theorem tz_74_40 : tw_E sc d 74 40 [x0, x1, x2, x3, x4] (.int v :: st) g mi mr Q = if 0 ≤ v then tw_E sc d 74 48 [x0, x1, x2, x3, x4] st g mi mr Q else tw_E sc d 74 43 [x0, x1, x2, x3, x4] st g mi mr Q := tw_x_if_ge td_74_40 (by decide)
theorem td_74_43 : decode (tw_cd 74) 43 = .ok (.iload 4, 2) := by decide +kernel
theorem tz_74_43 : tw_E sc d 74 43 [x0, x1, x2, x3, some (.int v)] st g mi mr Q = tw_E sc d 74 45 [x0, x1, x2, x3, some (.int v)] (.int v :: st) g mi mr Q := tw_x_iload td_74_43 rfl
theorem td_74_45 : decode (tw_cd 74) 45 = .ok (.goto 15, 3) := by decide +kernel
theorem tz_74_45 : tw_E sc d 74 45 [x0, x1, x2, x3, x4] st g mi mr Q = tw_E sc d 74 60 [x0, x1, x2, x3, x4] st g mi mr Q := tw_x_goto td_74_45 (by decide)
theorem td_74_48 : decode (tw_cd 74) 48 = .ok (.aload_n 0, 1) := by decide +kernel
theorem tz_74_48 : tw_E sc d 74 48 [some (.ref a), x1, x2, x3, x4] st g mi mr Q = tw_E sc d 74 49 [some (.ref a), x1, x2, x3, x4] (.ref a :: st) g mi mr Q := tw_x_aload_n td_74_48 rfl
theorem td_74_49 : decode (tw_cd 74) 49 = .ok (.iconst 3, 1) := by decide +kernel
theorem tz_74_49 : tw_E sc d 74 49 [x0, x1, x2, x3, x4] st g mi mr Q = tw_E sc d 74 50 [x0, x1, x2, x3, x4] (.int 3 :: st) g mi mr Q := tw_x_iconst td_74_49 (by decide)
theorem td_74_50 : decode (tw_cd 74) 50 = .ok (.iload_n 2, 1) := by decide +kernel
theorem tz_74_50 : tw_E sc d 74 50 [x0, x1, some (.int v), x3, x4] st g mi mr Q = tw_E sc d 74 51 [x0, x1, some (.int v), x3, x4] (.int v :: st) g mi mr Q := tw_x_iload_n td_74_50 rfl
theorem td_74_51 : decode (tw_cd 74) 51 = .ok (.iload 4, 2) := by decide +kernel
theorem tz_74_51 : tw_E sc d 74 51 [x0, x1, x2, x3, some (.int v)] st g mi mr Q = tw_E sc d 74 53 [x0, x1, x2, x3, some (.int v)] (.int v :: st) g mi mr Q := tw_x_iload td_74_51 rfl
theorem td_74_53 : decode (tw_cd 74) 53 = .ok (.bipush (-9), 2) := by decide +kernel
theorem tz_74_53 : tw_E sc d 74 53 [x0, x1, x2, x3, x4] st g mi mr Q = tw_E sc d 74 55 [x0, x1, x2, x3, x4] (.int (-9) :: st) g mi mr Q := tw_x_bipush td_74_53 (by decide)
theorem td_74_55 : decode (tw_cd 74) 55 = .ok (.bipush (-9), 2) := by decide +kernel
theorem tz_74_55 : tw_E sc d 74 55 [x0, x1, x2, x3, x4] st g mi mr Q = tw_E sc d 74 57 [x0, x1, x2, x3, x4] (.int (-9) :: st) g mi mr Q := tw_x_bipush td_74_55 (by decide)
theorem td_74_57 : decode (tw_cd 74) 57 = .ok (.invokevirtual 65, 3) := by decide +kernel
theorem tz_74_57 {a0 : Int32} {a1 : Int32} {a2 : Int32} {a3 : Int32} {a4 : Int32} : tw_E sc (d + 1) 74 57 [x0, x1, x2, x3, x4] ([.int a4, .int a3, .int a2, .int a1, .int a0, .ref a]) g mi mr Q = (tw_kd g a = 4 ∧ tw_E sc d 80 0 [some (.ref a), some (.int a0), some (.int a1), some (.int a2), some (.int a3), some (.int a4), none] [] g mi mr (tw_K sc (d + 1) 74 60 [x0, x1, x2, x3, x4] [] Q)) := tw_x_cv (as := [.int a0, .int a1, .int a2, .int a3, .int a4]) (r := []) td_74_57 to_74 tc_4_65 to_80 rfl rfl rfl rfl
theorem td_74_60 : decode (tw_cd 74) 60 = .ok (.istore_n 2, 1) := by decide +kernel
theorem tz_74_60 : tw_E sc d 74 60 [x0, x1, x2, x3, x4] (.int v :: st) g mi mr Q = tw_E sc d 74 61 [x0, x1, some (.int v), x3, x4] st g mi mr Q := tw_x_istore_n td_74_60 tp_74 rfl
theorem td_74_61 : decode (tw_cd 74) 61 = .ok (.iinc 3 1, 3) := by decide +kernel
theorem tz_74_61 : tw_E sc d 74 61 [x0, x1, x2, some (.int v), x4] st g mi mr Q = tw_E sc d 74 64 [x0, x1, x2, some (.int (v + 1)), x4] st g mi mr Q := tw_x_iinc td_74_61 rfl (by first | rfl | (exact congrArg (v + ·) (by decide))) tp_74 rfl
theorem td_74_64 : decode (tw_cd 74) 64 = .ok (.goto (-56), 3) := by decide +kernel
theorem tz_74_64 : tw_E sc d 74 64 [x0, x1, x2, x3, x4] st g mi mr Q = tw_E sc d 74 8 [x0, x1, x2, x3, x4] st g mi mr Q := tw_x_goto td_74_64 (by decide)
theorem td_74_67 : decode (tw_cd 74) 67 = .ok (.iload_n 2, 1) := by decide +kernel
theorem tz_74_67 : tw_E sc d 74 67 [x0, x1, some (.int v), x3, x4] st g mi mr Q = tw_E sc d 74 68 [x0, x1, some (.int v), x3, x4] (.int v :: st) g mi mr Q := tw_x_iload_n td_74_67 rfl
theorem td_74_68 : decode (tw_cd 74) 68 = .ok (.ireturn, 1) := by decide +kernel
theorem tz_74_68 : tw_E sc d 74 68 [x0, x1, x2, x3, x4] ([.int v]) g mi mr Q = Q (some (.int v)) g mi mr := tw_x_iret td_74_68 tr_74
end tz_74
-- 75: Re_readOne
section tz_75
variable {sc : Nat × (Nat → Int32)} {d : Nat} {x0 x1 : Option Value} {st : List Value} {g : tw_G} {mi : tw_I} {mr : tw_Q} {Q : Option Value → tw_G → tw_I → tw_Q → Prop} {v w u : Int32} {a b : Nat} {j h : Int64} {s1 s2 s3 s4 : Value}
theorem td_75_0 : decode (tw_cd 75) 0 = .ok (.aload_n 0, 1) := by decide +kernel
theorem tz_75_0 : tw_E sc d 75 0 [some (.ref a), x1] st g mi mr Q = tw_E sc d 75 1 [some (.ref a), x1] (.ref a :: st) g mi mr Q := tw_x_aload_n td_75_0 rfl
theorem td_75_1 : decode (tw_cd 75) 1 = .ok (.getfield 41, 3) := by decide +kernel
theorem tz_75_1 : tw_E sc d 75 1 [x0, x1] (.ref a :: st) g mi mr Q = (tw_kd g a = 4 ∧ tw_E sc d 75 4 [x0, x1] (.int (mi a 2) :: st) g mi mr Q) := tw_x_geti td_75_1 to_75 tf_4_41 (trf_4_2)
theorem td_75_4 : decode (tw_cd 75) 4 = .ok (.bipush 97, 2) := by decide +kernel
theorem tz_75_4 : tw_E sc d 75 4 [x0, x1] st g mi mr Q = tw_E sc d 75 6 [x0, x1] (.int 97 :: st) g mi mr Q := tw_x_bipush td_75_4 (by decide)
theorem td_75_6 : decode (tw_cd 75) 6 = .ok (.if_icmp .lt 17, 3) := by decide +kernel
theorem tz_75_6 : tw_E sc d 75 6 [x0, x1] (.int w :: .int v :: st) g mi mr Q = if v < w then tw_E sc d 75 23 [x0, x1] st g mi mr Q else tw_E sc d 75 9 [x0, x1] st g mi mr Q := tw_x_ic_lt td_75_6 (by decide)
theorem td_75_9 : decode (tw_cd 75) 9 = .ok (.aload_n 0, 1) := by decide +kernel
theorem tz_75_9 : tw_E sc d 75 9 [some (.ref a), x1] st g mi mr Q = tw_E sc d 75 10 [some (.ref a), x1] (.ref a :: st) g mi mr Q := tw_x_aload_n td_75_9 rfl
theorem td_75_10 : decode (tw_cd 75) 10 = .ok (.getfield 41, 3) := by decide +kernel
theorem tz_75_10 : tw_E sc d 75 10 [x0, x1] (.ref a :: st) g mi mr Q = (tw_kd g a = 4 ∧ tw_E sc d 75 13 [x0, x1] (.int (mi a 2) :: st) g mi mr Q) := tw_x_geti td_75_10 to_75 tf_4_41 (trf_4_2)
theorem td_75_13 : decode (tw_cd 75) 13 = .ok (.bipush 112, 2) := by decide +kernel
theorem tz_75_13 : tw_E sc d 75 13 [x0, x1] st g mi mr Q = tw_E sc d 75 15 [x0, x1] (.int 112 :: st) g mi mr Q := tw_x_bipush td_75_13 (by decide)
theorem td_75_15 : decode (tw_cd 75) 15 = .ok (.if_icmp .gt 8, 3) := by decide +kernel
theorem tz_75_15 : tw_E sc d 75 15 [x0, x1] (.int w :: .int v :: st) g mi mr Q = if w < v then tw_E sc d 75 23 [x0, x1] st g mi mr Q else tw_E sc d 75 18 [x0, x1] st g mi mr Q := tw_x_ic_gt td_75_15 (by decide)
theorem td_75_18 : decode (tw_cd 75) 18 = .ok (.aload_n 0, 1) := by decide +kernel
theorem tz_75_18 : tw_E sc d 75 18 [some (.ref a), x1] st g mi mr Q = tw_E sc d 75 19 [some (.ref a), x1] (.ref a :: st) g mi mr Q := tw_x_aload_n td_75_18 rfl
theorem td_75_19 : decode (tw_cd 75) 19 = .ok (.invokevirtual 85, 3) := by decide +kernel
theorem tz_75_19 : tw_E sc (d + 1) 75 19 [x0, x1] ([.ref a]) g mi mr Q = (tw_kd g a = 4 ∧ tw_E sc d 76 0 [some (.ref a), none, none] [] g mi mr (tw_K sc (d + 1) 75 22 [x0, x1] [] Q)) := tw_x_cv (as := []) (r := []) td_75_19 to_75 tc_4_85 to_76 rfl rfl rfl rfl
theorem td_75_22 : decode (tw_cd 75) 22 = .ok (.ireturn, 1) := by decide +kernel
theorem tz_75_22 : tw_E sc d 75 22 [x0, x1] ([.int v]) g mi mr Q = Q (some (.int v)) g mi mr := tw_x_iret td_75_22 tr_75
theorem td_75_23 : decode (tw_cd 75) 23 = .ok (.iload_n 1, 1) := by decide +kernel
theorem tz_75_23 : tw_E sc d 75 23 [x0, some (.int v)] st g mi mr Q = tw_E sc d 75 24 [x0, some (.int v)] (.int v :: st) g mi mr Q := tw_x_iload_n td_75_23 rfl
theorem td_75_24 : decode (tw_cd 75) 24 = .ok (.bipush 10, 2) := by decide +kernel
theorem tz_75_24 : tw_E sc d 75 24 [x0, x1] st g mi mr Q = tw_E sc d 75 26 [x0, x1] (.int 10 :: st) g mi mr Q := tw_x_bipush td_75_24 (by decide)
theorem td_75_26 : decode (tw_cd 75) 26 = .ok (.if_icmp .lt 8, 3) := by decide +kernel
theorem tz_75_26 : tw_E sc d 75 26 [x0, x1] (.int w :: .int v :: st) g mi mr Q = if v < w then tw_E sc d 75 34 [x0, x1] st g mi mr Q else tw_E sc d 75 29 [x0, x1] st g mi mr Q := tw_x_ic_lt td_75_26 (by decide)
theorem td_75_29 : decode (tw_cd 75) 29 = .ok (.aload_n 0, 1) := by decide +kernel
theorem tz_75_29 : tw_E sc d 75 29 [some (.ref a), x1] st g mi mr Q = tw_E sc d 75 30 [some (.ref a), x1] (.ref a :: st) g mi mr Q := tw_x_aload_n td_75_29 rfl
theorem td_75_30 : decode (tw_cd 75) 30 = .ok (.invokevirtual 44, 3) := by decide +kernel
theorem tz_75_30 : tw_E sc (d + 1) 75 30 [x0, x1] ([.ref a]) g mi mr Q = (tw_kd g a = 4 ∧ tw_E sc d 81 0 [some (.ref a)] [] g mi mr (tw_K sc (d + 1) 75 33 [x0, x1] [] Q)) := tw_x_cv (as := []) (r := []) td_75_30 to_75 tc_4_44 to_81 rfl rfl rfl rfl
theorem td_75_33 : decode (tw_cd 75) 33 = .ok (.ireturn, 1) := by decide +kernel
theorem tz_75_33 : tw_E sc d 75 33 [x0, x1] ([.int v]) g mi mr Q = Q (some (.int v)) g mi mr := tw_x_iret td_75_33 tr_75
theorem td_75_34 : decode (tw_cd 75) 34 = .ok (.aload_n 0, 1) := by decide +kernel
theorem tz_75_34 : tw_E sc d 75 34 [some (.ref a), x1] st g mi mr Q = tw_E sc d 75 35 [some (.ref a), x1] (.ref a :: st) g mi mr Q := tw_x_aload_n td_75_34 rfl
theorem td_75_35 : decode (tw_cd 75) 35 = .ok (.getfield 41, 3) := by decide +kernel
theorem tz_75_35 : tw_E sc d 75 35 [x0, x1] (.ref a :: st) g mi mr Q = (tw_kd g a = 4 ∧ tw_E sc d 75 38 [x0, x1] (.int (mi a 2) :: st) g mi mr Q) := tw_x_geti td_75_35 to_75 tf_4_41 (trf_4_2)
theorem td_75_38 : decode (tw_cd 75) 38 = .ok (.lookupswitch 58 #[(33, 42), (40, 50), (256, 34)], 34) := by decide +kernel
theorem tz_75_38 : tw_E sc d 75 38 [x0, x1] (.int v :: st) g mi mr Q = if v = 33 then tw_E sc d 75 80 [x0, x1] st g mi mr Q else if v = 40 then tw_E sc d 75 88 [x0, x1] st g mi mr Q else if v = 256 then tw_E sc d 75 72 [x0, x1] st g mi mr Q else tw_E sc d 75 96 [x0, x1] st g mi mr Q := tw_x_l3 td_75_38 (by decide) (by decide) (by decide) (by decide) (by decide) (by decide) (by decide) rfl
theorem td_75_72 : decode (tw_cd 75) 72 = .ok (.aload_n 0, 1) := by decide +kernel
theorem tz_75_72 : tw_E sc d 75 72 [some (.ref a), x1] st g mi mr Q = tw_E sc d 75 73 [some (.ref a), x1] (.ref a :: st) g mi mr Q := tw_x_aload_n td_75_72 rfl
theorem td_75_73 : decode (tw_cd 75) 73 = .ok (.iload_n 1, 1) := by decide +kernel
theorem tz_75_73 : tw_E sc d 75 73 [x0, some (.int v)] st g mi mr Q = tw_E sc d 75 74 [x0, some (.int v)] (.int v :: st) g mi mr Q := tw_x_iload_n td_75_73 rfl
theorem td_75_74 : decode (tw_cd 75) 74 = .ok (.iconst 1, 1) := by decide +kernel
theorem tz_75_74 : tw_E sc d 75 74 [x0, x1] st g mi mr Q = tw_E sc d 75 75 [x0, x1] (.int 1 :: st) g mi mr Q := tw_x_iconst td_75_74 (by decide)
theorem td_75_75 : decode (tw_cd 75) 75 = .ok (.iadd, 1) := by decide +kernel
theorem tz_75_75 : tw_E sc d 75 75 [x0, x1] (.int w :: .int v :: st) g mi mr Q = tw_E sc d 75 76 [x0, x1] (.int (v + w) :: st) g mi mr Q := tw_x_iadd td_75_75
theorem td_75_76 : decode (tw_cd 75) 76 = .ok (.invokevirtual 88, 3) := by decide +kernel
theorem tz_75_76 {a0 : Int32} : tw_E sc (d + 1) 75 76 [x0, x1] ([.int a0, .ref a]) g mi mr Q = (tw_kd g a = 4 ∧ tw_E sc d 77 0 [some (.ref a), some (.int a0), none, none] [] g mi mr (tw_K sc (d + 1) 75 79 [x0, x1] [] Q)) := tw_x_cv (as := [.int a0]) (r := []) td_75_76 to_75 tc_4_88 to_77 rfl rfl rfl rfl
theorem td_75_79 : decode (tw_cd 75) 79 = .ok (.ireturn, 1) := by decide +kernel
theorem tz_75_79 : tw_E sc d 75 79 [x0, x1] ([.int v]) g mi mr Q = Q (some (.int v)) g mi mr := tw_x_iret td_75_79 tr_75
theorem td_75_80 : decode (tw_cd 75) 80 = .ok (.aload_n 0, 1) := by decide +kernel
theorem tz_75_80 : tw_E sc d 75 80 [some (.ref a), x1] st g mi mr Q = tw_E sc d 75 81 [some (.ref a), x1] (.ref a :: st) g mi mr Q := tw_x_aload_n td_75_80 rfl
theorem td_75_81 : decode (tw_cd 75) 81 = .ok (.iload_n 1, 1) := by decide +kernel
theorem tz_75_81 : tw_E sc d 75 81 [x0, some (.int v)] st g mi mr Q = tw_E sc d 75 82 [x0, some (.int v)] (.int v :: st) g mi mr Q := tw_x_iload_n td_75_81 rfl
theorem td_75_82 : decode (tw_cd 75) 82 = .ok (.iconst 1, 1) := by decide +kernel
theorem tz_75_82 : tw_E sc d 75 82 [x0, x1] st g mi mr Q = tw_E sc d 75 83 [x0, x1] (.int 1 :: st) g mi mr Q := tw_x_iconst td_75_82 (by decide)
theorem td_75_83 : decode (tw_cd 75) 83 = .ok (.iadd, 1) := by decide +kernel
theorem tz_75_83 : tw_E sc d 75 83 [x0, x1] (.int w :: .int v :: st) g mi mr Q = tw_E sc d 75 84 [x0, x1] (.int (v + w) :: st) g mi mr Q := tw_x_iadd td_75_83
theorem td_75_84 : decode (tw_cd 75) 84 = .ok (.invokevirtual 91, 3) := by decide +kernel
theorem tz_75_84 {a0 : Int32} : tw_E sc (d + 1) 75 84 [x0, x1] ([.int a0, .ref a]) g mi mr Q = (tw_kd g a = 4 ∧ tw_E sc d 78 0 [some (.ref a), some (.int a0), none] [] g mi mr (tw_K sc (d + 1) 75 87 [x0, x1] [] Q)) := tw_x_cv (as := [.int a0]) (r := []) td_75_84 to_75 tc_4_91 to_78 rfl rfl rfl rfl
theorem td_75_87 : decode (tw_cd 75) 87 = .ok (.ireturn, 1) := by decide +kernel
theorem tz_75_87 : tw_E sc d 75 87 [x0, x1] ([.int v]) g mi mr Q = Q (some (.int v)) g mi mr := tw_x_iret td_75_87 tr_75
theorem td_75_88 : decode (tw_cd 75) 88 = .ok (.aload_n 0, 1) := by decide +kernel
theorem tz_75_88 : tw_E sc d 75 88 [some (.ref a), x1] st g mi mr Q = tw_E sc d 75 89 [some (.ref a), x1] (.ref a :: st) g mi mr Q := tw_x_aload_n td_75_88 rfl
theorem td_75_89 : decode (tw_cd 75) 89 = .ok (.iload_n 1, 1) := by decide +kernel
theorem tz_75_89 : tw_E sc d 75 89 [x0, some (.int v)] st g mi mr Q = tw_E sc d 75 90 [x0, some (.int v)] (.int v :: st) g mi mr Q := tw_x_iload_n td_75_89 rfl
theorem td_75_90 : decode (tw_cd 75) 90 = .ok (.iconst 1, 1) := by decide +kernel
theorem tz_75_90 : tw_E sc d 75 90 [x0, x1] st g mi mr Q = tw_E sc d 75 91 [x0, x1] (.int 1 :: st) g mi mr Q := tw_x_iconst td_75_90 (by decide)
theorem td_75_91 : decode (tw_cd 75) 91 = .ok (.iadd, 1) := by decide +kernel
theorem tz_75_91 : tw_E sc d 75 91 [x0, x1] (.int w :: .int v :: st) g mi mr Q = tw_E sc d 75 92 [x0, x1] (.int (v + w) :: st) g mi mr Q := tw_x_iadd td_75_91
theorem td_75_92 : decode (tw_cd 75) 92 = .ok (.invokevirtual 94, 3) := by decide +kernel
theorem tz_75_92 {a0 : Int32} : tw_E sc (d + 1) 75 92 [x0, x1] ([.int a0, .ref a]) g mi mr Q = (tw_kd g a = 4 ∧ tw_E sc d 79 0 [some (.ref a), some (.int a0), none] [] g mi mr (tw_K sc (d + 1) 75 95 [x0, x1] [] Q)) := tw_x_cv (as := [.int a0]) (r := []) td_75_92 to_75 tc_4_94 to_79 rfl rfl rfl rfl
theorem td_75_95 : decode (tw_cd 75) 95 = .ok (.ireturn, 1) := by decide +kernel
theorem tz_75_95 : tw_E sc d 75 95 [x0, x1] ([.int v]) g mi mr Q = Q (some (.int v)) g mi mr := tw_x_iret td_75_95 tr_75
theorem td_75_96 : decode (tw_cd 75) 96 = .ok (.aload_n 0, 1) := by decide +kernel
theorem tz_75_96 : tw_E sc d 75 96 [some (.ref a), x1] st g mi mr Q = tw_E sc d 75 97 [some (.ref a), x1] (.ref a :: st) g mi mr Q := tw_x_aload_n td_75_96 rfl
theorem td_75_97 : decode (tw_cd 75) 97 = .ok (.invokevirtual 44, 3) := by decide +kernel
theorem tz_75_97 : tw_E sc (d + 1) 75 97 [x0, x1] ([.ref a]) g mi mr Q = (tw_kd g a = 4 ∧ tw_E sc d 81 0 [some (.ref a)] [] g mi mr (tw_K sc (d + 1) 75 100 [x0, x1] [] Q)) := tw_x_cv (as := []) (r := []) td_75_97 to_75 tc_4_44 to_81 rfl rfl rfl rfl
theorem td_75_100 : decode (tw_cd 75) 100 = .ok (.ireturn, 1) := by decide +kernel
theorem tz_75_100 : tw_E sc d 75 100 [x0, x1] ([.int v]) g mi mr Q = Q (some (.int v)) g mi mr := tw_x_iret td_75_100 tr_75
end tz_75
-- 76: Re_readWire
section tz_76
variable {sc : Nat × (Nat → Int32)} {d : Nat} {x0 x1 x2 : Option Value} {st : List Value} {g : tw_G} {mi : tw_I} {mr : tw_Q} {Q : Option Value → tw_G → tw_I → tw_Q → Prop} {v w u : Int32} {a b : Nat} {j h : Int64} {s1 s2 s3 s4 : Value}
theorem td_76_0 : decode (tw_cd 76) 0 = .ok (.aload_n 0, 1) := by decide +kernel
theorem tz_76_0 : tw_E sc d 76 0 [some (.ref a), x1, x2] st g mi mr Q = tw_E sc d 76 1 [some (.ref a), x1, x2] (.ref a :: st) g mi mr Q := tw_x_aload_n td_76_0 rfl
theorem td_76_1 : decode (tw_cd 76) 1 = .ok (.getfield 41, 3) := by decide +kernel
theorem tz_76_1 : tw_E sc d 76 1 [x0, x1, x2] (.ref a :: st) g mi mr Q = (tw_kd g a = 4 ∧ tw_E sc d 76 4 [x0, x1, x2] (.int (mi a 2) :: st) g mi mr Q) := tw_x_geti td_76_1 to_76 tf_4_41 (trf_4_2)
theorem td_76_4 : decode (tw_cd 76) 4 = .ok (.bipush 97, 2) := by decide +kernel
theorem tz_76_4 : tw_E sc d 76 4 [x0, x1, x2] st g mi mr Q = tw_E sc d 76 6 [x0, x1, x2] (.int 97 :: st) g mi mr Q := tw_x_bipush td_76_4 (by decide)
theorem td_76_6 : decode (tw_cd 76) 6 = .ok (.isub, 1) := by decide +kernel
theorem tz_76_6 : tw_E sc d 76 6 [x0, x1, x2] (.int w :: .int v :: st) g mi mr Q = tw_E sc d 76 7 [x0, x1, x2] (.int (v - w) :: st) g mi mr Q := tw_x_isub td_76_6
theorem td_76_7 : decode (tw_cd 76) 7 = .ok (.istore_n 1, 1) := by decide +kernel
theorem tz_76_7 : tw_E sc d 76 7 [x0, x1, x2] (.int v :: st) g mi mr Q = tw_E sc d 76 8 [x0, some (.int v), x2] st g mi mr Q := tw_x_istore_n td_76_7 tp_76 rfl
theorem td_76_8 : decode (tw_cd 76) 8 = .ok (.aload_n 0, 1) := by decide +kernel
theorem tz_76_8 : tw_E sc d 76 8 [some (.ref a), x1, x2] st g mi mr Q = tw_E sc d 76 9 [some (.ref a), x1, x2] (.ref a :: st) g mi mr Q := tw_x_aload_n td_76_8 rfl
theorem td_76_9 : decode (tw_cd 76) 9 = .ok (.invokevirtual 34, 3) := by decide +kernel
theorem tz_76_9 : tw_E sc (d + 1) 76 9 [x0, x1, x2] ([.ref a]) g mi mr Q = (tw_kd g a = 4 ∧ tw_E sc d 83 0 [some (.ref a)] [] g mi mr (tw_K sc (d + 1) 76 12 [x0, x1, x2] [] Q)) := tw_x_cv (as := []) (r := []) td_76_9 to_76 tc_4_34 to_83 rfl rfl rfl rfl
theorem td_76_12 : decode (tw_cd 76) 12 = .ok (.aload_n 0, 1) := by decide +kernel
theorem tz_76_12 : tw_E sc d 76 12 [some (.ref a), x1, x2] st g mi mr Q = tw_E sc d 76 13 [some (.ref a), x1, x2] (.ref a :: st) g mi mr Q := tw_x_aload_n td_76_12 rfl
theorem td_76_13 : decode (tw_cd 76) 13 = .ok (.getfield 41, 3) := by decide +kernel
theorem tz_76_13 : tw_E sc d 76 13 [x0, x1, x2] (.ref a :: st) g mi mr Q = (tw_kd g a = 4 ∧ tw_E sc d 76 16 [x0, x1, x2] (.int (mi a 2) :: st) g mi mr Q) := tw_x_geti td_76_13 to_76 tf_4_41 (trf_4_2)
theorem td_76_16 : decode (tw_cd 76) 16 = .ok (.invokestatic 97, 3) := by decide +kernel
theorem tz_76_16 {a0 : Int32} : tw_E sc (d + 1) 76 16 [x0, x1, x2] ([.int a0]) g mi mr Q = tw_E sc d 87 0 [some (.int a0)] [] g mi mr (tw_K sc (d + 1) 76 19 [x0, x1, x2] [] Q) := tw_x_cs (as := [.int a0]) (r := []) td_76_16 to_76 tmn_4_97 tc_4_97 rfl rfl rfl rfl rfl
theorem td_76_19 : decode (tw_cd 76) 19 = .ok (.istore_n 2, 1) := by decide +kernel
theorem tz_76_19 : tw_E sc d 76 19 [x0, x1, x2] (.int v :: st) g mi mr Q = tw_E sc d 76 20 [x0, x1, some (.int v)] st g mi mr Q := tw_x_istore_n td_76_19 tp_76 rfl
theorem td_76_20 : decode (tw_cd 76) 20 = .ok (.iload_n 2, 1) := by decide +kernel
theorem tz_76_20 : tw_E sc d 76 20 [x0, x1, some (.int v)] st g mi mr Q = tw_E sc d 76 21 [x0, x1, some (.int v)] (.int v :: st) g mi mr Q := tw_x_iload_n td_76_20 rfl
theorem td_76_21 : decode (tw_cd 76) 21 = .ok (.bipush (-9), 2) := by decide +kernel
theorem tz_76_21 : tw_E sc d 76 21 [x0, x1, x2] st g mi mr Q = tw_E sc d 76 23 [x0, x1, x2] (.int (-9) :: st) g mi mr Q := tw_x_bipush td_76_21 (by decide)
theorem td_76_23 : decode (tw_cd 76) 23 = .ok (.if_icmp .ne 16, 3) := by decide +kernel
theorem tz_76_23 : tw_E sc d 76 23 [x0, x1, x2] (.int w :: .int v :: st) g mi mr Q = if ¬ v = w then tw_E sc d 76 39 [x0, x1, x2] st g mi mr Q else tw_E sc d 76 26 [x0, x1, x2] st g mi mr Q := tw_x_ic_ne td_76_23 (by decide)
theorem td_76_26 : decode (tw_cd 76) 26 = .ok (.aload_n 0, 1) := by decide +kernel
theorem tz_76_26 : tw_E sc d 76 26 [some (.ref a), x1, x2] st g mi mr Q = tw_E sc d 76 27 [some (.ref a), x1, x2] (.ref a :: st) g mi mr Q := tw_x_aload_n td_76_26 rfl
theorem td_76_27 : decode (tw_cd 76) 27 = .ok (.iconst 0, 1) := by decide +kernel
theorem tz_76_27 : tw_E sc d 76 27 [x0, x1, x2] st g mi mr Q = tw_E sc d 76 28 [x0, x1, x2] (.int 0 :: st) g mi mr Q := tw_x_iconst td_76_27 (by decide)
theorem td_76_28 : decode (tw_cd 76) 28 = .ok (.iload_n 1, 1) := by decide +kernel
theorem tz_76_28 : tw_E sc d 76 28 [x0, some (.int v), x2] st g mi mr Q = tw_E sc d 76 29 [x0, some (.int v), x2] (.int v :: st) g mi mr Q := tw_x_iload_n td_76_28 rfl
theorem td_76_29 : decode (tw_cd 76) 29 = .ok (.bipush (-9), 2) := by decide +kernel
theorem tz_76_29 : tw_E sc d 76 29 [x0, x1, x2] st g mi mr Q = tw_E sc d 76 31 [x0, x1, x2] (.int (-9) :: st) g mi mr Q := tw_x_bipush td_76_29 (by decide)
theorem td_76_31 : decode (tw_cd 76) 31 = .ok (.bipush (-9), 2) := by decide +kernel
theorem tz_76_31 : tw_E sc d 76 31 [x0, x1, x2] st g mi mr Q = tw_E sc d 76 33 [x0, x1, x2] (.int (-9) :: st) g mi mr Q := tw_x_bipush td_76_31 (by decide)
theorem td_76_33 : decode (tw_cd 76) 33 = .ok (.bipush (-9), 2) := by decide +kernel
theorem tz_76_33 : tw_E sc d 76 33 [x0, x1, x2] st g mi mr Q = tw_E sc d 76 35 [x0, x1, x2] (.int (-9) :: st) g mi mr Q := tw_x_bipush td_76_33 (by decide)
theorem td_76_35 : decode (tw_cd 76) 35 = .ok (.invokevirtual 65, 3) := by decide +kernel
theorem tz_76_35 {a0 : Int32} {a1 : Int32} {a2 : Int32} {a3 : Int32} {a4 : Int32} : tw_E sc (d + 1) 76 35 [x0, x1, x2] ([.int a4, .int a3, .int a2, .int a1, .int a0, .ref a]) g mi mr Q = (tw_kd g a = 4 ∧ tw_E sc d 80 0 [some (.ref a), some (.int a0), some (.int a1), some (.int a2), some (.int a3), some (.int a4), none] [] g mi mr (tw_K sc (d + 1) 76 38 [x0, x1, x2] [] Q)) := tw_x_cv (as := [.int a0, .int a1, .int a2, .int a3, .int a4]) (r := []) td_76_35 to_76 tc_4_65 to_80 rfl rfl rfl rfl
theorem td_76_38 : decode (tw_cd 76) 38 = .ok (.ireturn, 1) := by decide +kernel
theorem tz_76_38 : tw_E sc d 76 38 [x0, x1, x2] ([.int v]) g mi mr Q = Q (some (.int v)) g mi mr := tw_x_iret td_76_38 tr_76
theorem td_76_39 : decode (tw_cd 76) 39 = .ok (.aload_n 0, 1) := by decide +kernel
theorem tz_76_39 : tw_E sc d 76 39 [some (.ref a), x1, x2] st g mi mr Q = tw_E sc d 76 40 [some (.ref a), x1, x2] (.ref a :: st) g mi mr Q := tw_x_aload_n td_76_39 rfl
theorem td_76_40 : decode (tw_cd 76) 40 = .ok (.invokevirtual 34, 3) := by decide +kernel
theorem tz_76_40 : tw_E sc (d + 1) 76 40 [x0, x1, x2] ([.ref a]) g mi mr Q = (tw_kd g a = 4 ∧ tw_E sc d 83 0 [some (.ref a)] [] g mi mr (tw_K sc (d + 1) 76 43 [x0, x1, x2] [] Q)) := tw_x_cv (as := []) (r := []) td_76_40 to_76 tc_4_34 to_83 rfl rfl rfl rfl
theorem td_76_43 : decode (tw_cd 76) 43 = .ok (.aload_n 0, 1) := by decide +kernel
theorem tz_76_43 : tw_E sc d 76 43 [some (.ref a), x1, x2] st g mi mr Q = tw_E sc d 76 44 [some (.ref a), x1, x2] (.ref a :: st) g mi mr Q := tw_x_aload_n td_76_43 rfl
theorem td_76_44 : decode (tw_cd 76) 44 = .ok (.iconst 1, 1) := by decide +kernel
theorem tz_76_44 : tw_E sc d 76 44 [x0, x1, x2] st g mi mr Q = tw_E sc d 76 45 [x0, x1, x2] (.int 1 :: st) g mi mr Q := tw_x_iconst td_76_44 (by decide)
theorem td_76_45 : decode (tw_cd 76) 45 = .ok (.iload_n 1, 1) := by decide +kernel
theorem tz_76_45 : tw_E sc d 76 45 [x0, some (.int v), x2] st g mi mr Q = tw_E sc d 76 46 [x0, some (.int v), x2] (.int v :: st) g mi mr Q := tw_x_iload_n td_76_45 rfl
theorem td_76_46 : decode (tw_cd 76) 46 = .ok (.iload_n 2, 1) := by decide +kernel
theorem tz_76_46 : tw_E sc d 76 46 [x0, x1, some (.int v)] st g mi mr Q = tw_E sc d 76 47 [x0, x1, some (.int v)] (.int v :: st) g mi mr Q := tw_x_iload_n td_76_46 rfl
theorem td_76_47 : decode (tw_cd 76) 47 = .ok (.bipush (-9), 2) := by decide +kernel
theorem tz_76_47 : tw_E sc d 76 47 [x0, x1, x2] st g mi mr Q = tw_E sc d 76 49 [x0, x1, x2] (.int (-9) :: st) g mi mr Q := tw_x_bipush td_76_47 (by decide)
theorem td_76_49 : decode (tw_cd 76) 49 = .ok (.bipush (-9), 2) := by decide +kernel
theorem tz_76_49 : tw_E sc d 76 49 [x0, x1, x2] st g mi mr Q = tw_E sc d 76 51 [x0, x1, x2] (.int (-9) :: st) g mi mr Q := tw_x_bipush td_76_49 (by decide)
theorem td_76_51 : decode (tw_cd 76) 51 = .ok (.invokevirtual 65, 3) := by decide +kernel
theorem tz_76_51 {a0 : Int32} {a1 : Int32} {a2 : Int32} {a3 : Int32} {a4 : Int32} : tw_E sc (d + 1) 76 51 [x0, x1, x2] ([.int a4, .int a3, .int a2, .int a1, .int a0, .ref a]) g mi mr Q = (tw_kd g a = 4 ∧ tw_E sc d 80 0 [some (.ref a), some (.int a0), some (.int a1), some (.int a2), some (.int a3), some (.int a4), none] [] g mi mr (tw_K sc (d + 1) 76 54 [x0, x1, x2] [] Q)) := tw_x_cv (as := [.int a0, .int a1, .int a2, .int a3, .int a4]) (r := []) td_76_51 to_76 tc_4_65 to_80 rfl rfl rfl rfl
theorem td_76_54 : decode (tw_cd 76) 54 = .ok (.ireturn, 1) := by decide +kernel
theorem tz_76_54 : tw_E sc d 76 54 [x0, x1, x2] ([.int v]) g mi mr Q = Q (some (.int v)) g mi mr := tw_x_iret td_76_54 tr_76
end tz_76
-- 77: Re_readCounted
section tz_77
variable {sc : Nat × (Nat → Int32)} {d : Nat} {x0 x1 x2 x3 : Option Value} {st : List Value} {g : tw_G} {mi : tw_I} {mr : tw_Q} {Q : Option Value → tw_G → tw_I → tw_Q → Prop} {v w u : Int32} {a b : Nat} {j h : Int64} {s1 s2 s3 s4 : Value}
theorem td_77_0 : decode (tw_cd 77) 0 = .ok (.aload_n 0, 1) := by decide +kernel
theorem tz_77_0 : tw_E sc d 77 0 [some (.ref a), x1, x2, x3] st g mi mr Q = tw_E sc d 77 1 [some (.ref a), x1, x2, x3] (.ref a :: st) g mi mr Q := tw_x_aload_n td_77_0 rfl
theorem td_77_1 : decode (tw_cd 77) 1 = .ok (.getfield 69, 3) := by decide +kernel
theorem tz_77_1 : tw_E sc d 77 1 [x0, x1, x2, x3] (.ref a :: st) g mi mr Q = (tw_kd g a = 4 ∧ tw_E sc d 77 4 [x0, x1, x2, x3] (.int (mi a 3) :: st) g mi mr Q) := tw_x_geti td_77_1 to_77 tf_4_69 (trf_4_3)
theorem td_77_4 : decode (tw_cd 77) 4 = .ok (.istore_n 2, 1) := by decide +kernel
theorem tz_77_4 : tw_E sc d 77 4 [x0, x1, x2, x3] (.int v :: st) g mi mr Q = tw_E sc d 77 5 [x0, x1, some (.int v), x3] st g mi mr Q := tw_x_istore_n td_77_4 tp_77 rfl
theorem td_77_5 : decode (tw_cd 77) 5 = .ok (.aload_n 0, 1) := by decide +kernel
theorem tz_77_5 : tw_E sc d 77 5 [some (.ref a), x1, x2, x3] st g mi mr Q = tw_E sc d 77 6 [some (.ref a), x1, x2, x3] (.ref a :: st) g mi mr Q := tw_x_aload_n td_77_5 rfl
theorem td_77_6 : decode (tw_cd 77) 6 = .ok (.invokevirtual 34, 3) := by decide +kernel
theorem tz_77_6 : tw_E sc (d + 1) 77 6 [x0, x1, x2, x3] ([.ref a]) g mi mr Q = (tw_kd g a = 4 ∧ tw_E sc d 83 0 [some (.ref a)] [] g mi mr (tw_K sc (d + 1) 77 9 [x0, x1, x2, x3] [] Q)) := tw_x_cv (as := []) (r := []) td_77_6 to_77 tc_4_34 to_83 rfl rfl rfl rfl
theorem td_77_9 : decode (tw_cd 77) 9 = .ok (.aload_n 0, 1) := by decide +kernel
theorem tz_77_9 : tw_E sc d 77 9 [some (.ref a), x1, x2, x3] st g mi mr Q = tw_E sc d 77 10 [some (.ref a), x1, x2, x3] (.ref a :: st) g mi mr Q := tw_x_aload_n td_77_9 rfl
theorem td_77_10 : decode (tw_cd 77) 10 = .ok (.bipush 42, 2) := by decide +kernel
theorem tz_77_10 : tw_E sc d 77 10 [x0, x1, x2, x3] st g mi mr Q = tw_E sc d 77 12 [x0, x1, x2, x3] (.int 42 :: st) g mi mr Q := tw_x_bipush td_77_10 (by decide)
theorem td_77_12 : decode (tw_cd 77) 12 = .ok (.invokevirtual 72, 3) := by decide +kernel
theorem tz_77_12 {a0 : Int32} : tw_E sc (d + 1) 77 12 [x0, x1, x2, x3] ([.int a0, .ref a]) g mi mr Q = (tw_kd g a = 4 ∧ tw_E sc d 82 0 [some (.ref a), some (.int a0)] [] g mi mr (tw_K sc (d + 1) 77 15 [x0, x1, x2, x3] [] Q)) := tw_x_cv (as := [.int a0]) (r := []) td_77_12 to_77 tc_4_72 to_82 rfl rfl rfl rfl
theorem td_77_15 : decode (tw_cd 77) 15 = .ok (.ifCond .ne 8, 3) := by decide +kernel
theorem tz_77_15 : tw_E sc d 77 15 [x0, x1, x2, x3] (.int v :: st) g mi mr Q = if ¬ v = 0 then tw_E sc d 77 23 [x0, x1, x2, x3] st g mi mr Q else tw_E sc d 77 18 [x0, x1, x2, x3] st g mi mr Q := tw_x_if_ne td_77_15 (by decide)
theorem td_77_18 : decode (tw_cd 77) 18 = .ok (.aload_n 0, 1) := by decide +kernel
theorem tz_77_18 : tw_E sc d 77 18 [some (.ref a), x1, x2, x3] st g mi mr Q = tw_E sc d 77 19 [some (.ref a), x1, x2, x3] (.ref a :: st) g mi mr Q := tw_x_aload_n td_77_18 rfl
theorem td_77_19 : decode (tw_cd 77) 19 = .ok (.invokevirtual 44, 3) := by decide +kernel
theorem tz_77_19 : tw_E sc (d + 1) 77 19 [x0, x1, x2, x3] ([.ref a]) g mi mr Q = (tw_kd g a = 4 ∧ tw_E sc d 81 0 [some (.ref a)] [] g mi mr (tw_K sc (d + 1) 77 22 [x0, x1, x2, x3] [] Q)) := tw_x_cv (as := []) (r := []) td_77_19 to_77 tc_4_44 to_81 rfl rfl rfl rfl
theorem td_77_22 : decode (tw_cd 77) 22 = .ok (.ireturn, 1) := by decide +kernel
theorem tz_77_22 : tw_E sc d 77 22 [x0, x1, x2, x3] ([.int v]) g mi mr Q = Q (some (.int v)) g mi mr := tw_x_iret td_77_22 tr_77
theorem td_77_23 : decode (tw_cd 77) 23 = .ok (.aload_n 0, 1) := by decide +kernel
theorem tz_77_23 : tw_E sc d 77 23 [some (.ref a), x1, x2, x3] st g mi mr Q = tw_E sc d 77 24 [some (.ref a), x1, x2, x3] (.ref a :: st) g mi mr Q := tw_x_aload_n td_77_23 rfl
theorem td_77_24 : decode (tw_cd 77) 24 = .ok (.iload_n 1, 1) := by decide +kernel
theorem tz_77_24 : tw_E sc d 77 24 [x0, some (.int v), x2, x3] st g mi mr Q = tw_E sc d 77 25 [x0, some (.int v), x2, x3] (.int v :: st) g mi mr Q := tw_x_iload_n td_77_24 rfl
theorem td_77_25 : decode (tw_cd 77) 25 = .ok (.invokevirtual 82, 3) := by decide +kernel
theorem tz_77_25 {a0 : Int32} : tw_E sc (d + 1) 77 25 [x0, x1, x2, x3] ([.int a0, .ref a]) g mi mr Q = (tw_kd g a = 4 ∧ tw_E sc d 75 0 [some (.ref a), some (.int a0)] [] g mi mr (tw_K sc (d + 1) 77 28 [x0, x1, x2, x3] [] Q)) := tw_x_cv (as := [.int a0]) (r := []) td_77_25 to_77 tc_4_82 to_75 rfl rfl rfl rfl
theorem td_77_28 : decode (tw_cd 77) 28 = .ok (.istore_n 3, 1) := by decide +kernel
theorem tz_77_28 : tw_E sc d 77 28 [x0, x1, x2, x3] (.int v :: st) g mi mr Q = tw_E sc d 77 29 [x0, x1, x2, some (.int v)] st g mi mr Q := tw_x_istore_n td_77_28 tp_77 rfl
theorem td_77_29 : decode (tw_cd 77) 29 = .ok (.iload_n 3, 1) := by decide +kernel
theorem tz_77_29 : tw_E sc d 77 29 [x0, x1, x2, some (.int v)] st g mi mr Q = tw_E sc d 77 30 [x0, x1, x2, some (.int v)] (.int v :: st) g mi mr Q := tw_x_iload_n td_77_29 rfl
theorem td_77_30 : decode (tw_cd 77) 30 = .ok (.ifCond .ge 7, 3) := by decide +kernel
theorem tz_77_30 : tw_E sc d 77 30 [x0, x1, x2, x3] (.int v :: st) g mi mr Q = if 0 ≤ v then tw_E sc d 77 37 [x0, x1, x2, x3] st g mi mr Q else tw_E sc d 77 33 [x0, x1, x2, x3] st g mi mr Q := tw_x_if_ge td_77_30 (by decide)
theorem td_77_33 : decode (tw_cd 77) 33 = .ok (.iload_n 3, 1) := by decide +kernel
theorem tz_77_33 : tw_E sc d 77 33 [x0, x1, x2, some (.int v)] st g mi mr Q = tw_E sc d 77 34 [x0, x1, x2, some (.int v)] (.int v :: st) g mi mr Q := tw_x_iload_n td_77_33 rfl
theorem td_77_34 : decode (tw_cd 77) 34 = .ok (.goto 14, 3) := by decide +kernel
theorem tz_77_34 : tw_E sc d 77 34 [x0, x1, x2, x3] st g mi mr Q = tw_E sc d 77 48 [x0, x1, x2, x3] st g mi mr Q := tw_x_goto td_77_34 (by decide)
theorem td_77_37 : decode (tw_cd 77) 37 = .ok (.aload_n 0, 1) := by decide +kernel
theorem tz_77_37 : tw_E sc d 77 37 [some (.ref a), x1, x2, x3] st g mi mr Q = tw_E sc d 77 38 [some (.ref a), x1, x2, x3] (.ref a :: st) g mi mr Q := tw_x_aload_n td_77_37 rfl
theorem td_77_38 : decode (tw_cd 77) 38 = .ok (.iconst 5, 1) := by decide +kernel
theorem tz_77_38 : tw_E sc d 77 38 [x0, x1, x2, x3] st g mi mr Q = tw_E sc d 77 39 [x0, x1, x2, x3] (.int 5 :: st) g mi mr Q := tw_x_iconst td_77_38 (by decide)
theorem td_77_39 : decode (tw_cd 77) 39 = .ok (.iload_n 3, 1) := by decide +kernel
theorem tz_77_39 : tw_E sc d 77 39 [x0, x1, x2, some (.int v)] st g mi mr Q = tw_E sc d 77 40 [x0, x1, x2, some (.int v)] (.int v :: st) g mi mr Q := tw_x_iload_n td_77_39 rfl
theorem td_77_40 : decode (tw_cd 77) 40 = .ok (.bipush (-9), 2) := by decide +kernel
theorem tz_77_40 : tw_E sc d 77 40 [x0, x1, x2, x3] st g mi mr Q = tw_E sc d 77 42 [x0, x1, x2, x3] (.int (-9) :: st) g mi mr Q := tw_x_bipush td_77_40 (by decide)
theorem td_77_42 : decode (tw_cd 77) 42 = .ok (.iload_n 2, 1) := by decide +kernel
theorem tz_77_42 : tw_E sc d 77 42 [x0, x1, some (.int v), x3] st g mi mr Q = tw_E sc d 77 43 [x0, x1, some (.int v), x3] (.int v :: st) g mi mr Q := tw_x_iload_n td_77_42 rfl
theorem td_77_43 : decode (tw_cd 77) 43 = .ok (.bipush (-9), 2) := by decide +kernel
theorem tz_77_43 : tw_E sc d 77 43 [x0, x1, x2, x3] st g mi mr Q = tw_E sc d 77 45 [x0, x1, x2, x3] (.int (-9) :: st) g mi mr Q := tw_x_bipush td_77_43 (by decide)
theorem td_77_45 : decode (tw_cd 77) 45 = .ok (.invokevirtual 65, 3) := by decide +kernel
theorem tz_77_45 {a0 : Int32} {a1 : Int32} {a2 : Int32} {a3 : Int32} {a4 : Int32} : tw_E sc (d + 1) 77 45 [x0, x1, x2, x3] ([.int a4, .int a3, .int a2, .int a1, .int a0, .ref a]) g mi mr Q = (tw_kd g a = 4 ∧ tw_E sc d 80 0 [some (.ref a), some (.int a0), some (.int a1), some (.int a2), some (.int a3), some (.int a4), none] [] g mi mr (tw_K sc (d + 1) 77 48 [x0, x1, x2, x3] [] Q)) := tw_x_cv (as := [.int a0, .int a1, .int a2, .int a3, .int a4]) (r := []) td_77_45 to_77 tc_4_65 to_80 rfl rfl rfl rfl
theorem td_77_48 : decode (tw_cd 77) 48 = .ok (.ireturn, 1) := by decide +kernel
theorem tz_77_48 : tw_E sc d 77 48 [x0, x1, x2, x3] ([.int v]) g mi mr Q = Q (some (.int v)) g mi mr := tw_x_iret td_77_48 tr_77
end tz_77
-- 78: Re_readNot
section tz_78
variable {sc : Nat × (Nat → Int32)} {d : Nat} {x0 x1 x2 : Option Value} {st : List Value} {g : tw_G} {mi : tw_I} {mr : tw_Q} {Q : Option Value → tw_G → tw_I → tw_Q → Prop} {v w u : Int32} {a b : Nat} {j h : Int64} {s1 s2 s3 s4 : Value}
theorem td_78_0 : decode (tw_cd 78) 0 = .ok (.aload_n 0, 1) := by decide +kernel
theorem tz_78_0 : tw_E sc d 78 0 [some (.ref a), x1, x2] st g mi mr Q = tw_E sc d 78 1 [some (.ref a), x1, x2] (.ref a :: st) g mi mr Q := tw_x_aload_n td_78_0 rfl
theorem td_78_1 : decode (tw_cd 78) 1 = .ok (.invokevirtual 34, 3) := by decide +kernel
theorem tz_78_1 : tw_E sc (d + 1) 78 1 [x0, x1, x2] ([.ref a]) g mi mr Q = (tw_kd g a = 4 ∧ tw_E sc d 83 0 [some (.ref a)] [] g mi mr (tw_K sc (d + 1) 78 4 [x0, x1, x2] [] Q)) := tw_x_cv (as := []) (r := []) td_78_1 to_78 tc_4_34 to_83 rfl rfl rfl rfl
theorem td_78_4 : decode (tw_cd 78) 4 = .ok (.aload_n 0, 1) := by decide +kernel
theorem tz_78_4 : tw_E sc d 78 4 [some (.ref a), x1, x2] st g mi mr Q = tw_E sc d 78 5 [some (.ref a), x1, x2] (.ref a :: st) g mi mr Q := tw_x_aload_n td_78_4 rfl
theorem td_78_5 : decode (tw_cd 78) 5 = .ok (.iload_n 1, 1) := by decide +kernel
theorem tz_78_5 : tw_E sc d 78 5 [x0, some (.int v), x2] st g mi mr Q = tw_E sc d 78 6 [x0, some (.int v), x2] (.int v :: st) g mi mr Q := tw_x_iload_n td_78_5 rfl
theorem td_78_6 : decode (tw_cd 78) 6 = .ok (.invokevirtual 82, 3) := by decide +kernel
theorem tz_78_6 {a0 : Int32} : tw_E sc (d + 1) 78 6 [x0, x1, x2] ([.int a0, .ref a]) g mi mr Q = (tw_kd g a = 4 ∧ tw_E sc d 75 0 [some (.ref a), some (.int a0)] [] g mi mr (tw_K sc (d + 1) 78 9 [x0, x1, x2] [] Q)) := tw_x_cv (as := [.int a0]) (r := []) td_78_6 to_78 tc_4_82 to_75 rfl rfl rfl rfl
theorem td_78_9 : decode (tw_cd 78) 9 = .ok (.istore_n 2, 1) := by decide +kernel
theorem tz_78_9 : tw_E sc d 78 9 [x0, x1, x2] (.int v :: st) g mi mr Q = tw_E sc d 78 10 [x0, x1, some (.int v)] st g mi mr Q := tw_x_istore_n td_78_9 tp_78 rfl
theorem td_78_10 : decode (tw_cd 78) 10 = .ok (.iload_n 2, 1) := by decide +kernel
theorem tz_78_10 : tw_E sc d 78 10 [x0, x1, some (.int v)] st g mi mr Q = tw_E sc d 78 11 [x0, x1, some (.int v)] (.int v :: st) g mi mr Q := tw_x_iload_n td_78_10 rfl
theorem td_78_11 : decode (tw_cd 78) 11 = .ok (.ifCond .ge 7, 3) := by decide +kernel
theorem tz_78_11 : tw_E sc d 78 11 [x0, x1, x2] (.int v :: st) g mi mr Q = if 0 ≤ v then tw_E sc d 78 18 [x0, x1, x2] st g mi mr Q else tw_E sc d 78 14 [x0, x1, x2] st g mi mr Q := tw_x_if_ge td_78_11 (by decide)
theorem td_78_14 : decode (tw_cd 78) 14 = .ok (.iload_n 2, 1) := by decide +kernel
theorem tz_78_14 : tw_E sc d 78 14 [x0, x1, some (.int v)] st g mi mr Q = tw_E sc d 78 15 [x0, x1, some (.int v)] (.int v :: st) g mi mr Q := tw_x_iload_n td_78_14 rfl
theorem td_78_15 : decode (tw_cd 78) 15 = .ok (.goto 15, 3) := by decide +kernel
theorem tz_78_15 : tw_E sc d 78 15 [x0, x1, x2] st g mi mr Q = tw_E sc d 78 30 [x0, x1, x2] st g mi mr Q := tw_x_goto td_78_15 (by decide)
theorem td_78_18 : decode (tw_cd 78) 18 = .ok (.aload_n 0, 1) := by decide +kernel
theorem tz_78_18 : tw_E sc d 78 18 [some (.ref a), x1, x2] st g mi mr Q = tw_E sc d 78 19 [some (.ref a), x1, x2] (.ref a :: st) g mi mr Q := tw_x_aload_n td_78_18 rfl
theorem td_78_19 : decode (tw_cd 78) 19 = .ok (.iconst 2, 1) := by decide +kernel
theorem tz_78_19 : tw_E sc d 78 19 [x0, x1, x2] st g mi mr Q = tw_E sc d 78 20 [x0, x1, x2] (.int 2 :: st) g mi mr Q := tw_x_iconst td_78_19 (by decide)
theorem td_78_20 : decode (tw_cd 78) 20 = .ok (.iload_n 2, 1) := by decide +kernel
theorem tz_78_20 : tw_E sc d 78 20 [x0, x1, some (.int v)] st g mi mr Q = tw_E sc d 78 21 [x0, x1, some (.int v)] (.int v :: st) g mi mr Q := tw_x_iload_n td_78_20 rfl
theorem td_78_21 : decode (tw_cd 78) 21 = .ok (.bipush (-9), 2) := by decide +kernel
theorem tz_78_21 : tw_E sc d 78 21 [x0, x1, x2] st g mi mr Q = tw_E sc d 78 23 [x0, x1, x2] (.int (-9) :: st) g mi mr Q := tw_x_bipush td_78_21 (by decide)
theorem td_78_23 : decode (tw_cd 78) 23 = .ok (.bipush (-9), 2) := by decide +kernel
theorem tz_78_23 : tw_E sc d 78 23 [x0, x1, x2] st g mi mr Q = tw_E sc d 78 25 [x0, x1, x2] (.int (-9) :: st) g mi mr Q := tw_x_bipush td_78_23 (by decide)
theorem td_78_25 : decode (tw_cd 78) 25 = .ok (.bipush (-9), 2) := by decide +kernel
theorem tz_78_25 : tw_E sc d 78 25 [x0, x1, x2] st g mi mr Q = tw_E sc d 78 27 [x0, x1, x2] (.int (-9) :: st) g mi mr Q := tw_x_bipush td_78_25 (by decide)
theorem td_78_27 : decode (tw_cd 78) 27 = .ok (.invokevirtual 65, 3) := by decide +kernel
theorem tz_78_27 {a0 : Int32} {a1 : Int32} {a2 : Int32} {a3 : Int32} {a4 : Int32} : tw_E sc (d + 1) 78 27 [x0, x1, x2] ([.int a4, .int a3, .int a2, .int a1, .int a0, .ref a]) g mi mr Q = (tw_kd g a = 4 ∧ tw_E sc d 80 0 [some (.ref a), some (.int a0), some (.int a1), some (.int a2), some (.int a3), some (.int a4), none] [] g mi mr (tw_K sc (d + 1) 78 30 [x0, x1, x2] [] Q)) := tw_x_cv (as := [.int a0, .int a1, .int a2, .int a3, .int a4]) (r := []) td_78_27 to_78 tc_4_65 to_80 rfl rfl rfl rfl
theorem td_78_30 : decode (tw_cd 78) 30 = .ok (.ireturn, 1) := by decide +kernel
theorem tz_78_30 : tw_E sc d 78 30 [x0, x1, x2] ([.int v]) g mi mr Q = Q (some (.int v)) g mi mr := tw_x_iret td_78_30 tr_78
end tz_78
-- 79: Re_readWithin
section tz_79
variable {sc : Nat × (Nat → Int32)} {d : Nat} {x0 x1 x2 : Option Value} {st : List Value} {g : tw_G} {mi : tw_I} {mr : tw_Q} {Q : Option Value → tw_G → tw_I → tw_Q → Prop} {v w u : Int32} {a b : Nat} {j h : Int64} {s1 s2 s3 s4 : Value}
theorem td_79_0 : decode (tw_cd 79) 0 = .ok (.aload_n 0, 1) := by decide +kernel
theorem tz_79_0 : tw_E sc d 79 0 [some (.ref a), x1, x2] st g mi mr Q = tw_E sc d 79 1 [some (.ref a), x1, x2] (.ref a :: st) g mi mr Q := tw_x_aload_n td_79_0 rfl
theorem td_79_1 : decode (tw_cd 79) 1 = .ok (.invokevirtual 34, 3) := by decide +kernel
theorem tz_79_1 : tw_E sc (d + 1) 79 1 [x0, x1, x2] ([.ref a]) g mi mr Q = (tw_kd g a = 4 ∧ tw_E sc d 83 0 [some (.ref a)] [] g mi mr (tw_K sc (d + 1) 79 4 [x0, x1, x2] [] Q)) := tw_x_cv (as := []) (r := []) td_79_1 to_79 tc_4_34 to_83 rfl rfl rfl rfl
theorem td_79_4 : decode (tw_cd 79) 4 = .ok (.aload_n 0, 1) := by decide +kernel
theorem tz_79_4 : tw_E sc d 79 4 [some (.ref a), x1, x2] st g mi mr Q = tw_E sc d 79 5 [some (.ref a), x1, x2] (.ref a :: st) g mi mr Q := tw_x_aload_n td_79_4 rfl
theorem td_79_5 : decode (tw_cd 79) 5 = .ok (.iload_n 1, 1) := by decide +kernel
theorem tz_79_5 : tw_E sc d 79 5 [x0, some (.int v), x2] st g mi mr Q = tw_E sc d 79 6 [x0, some (.int v), x2] (.int v :: st) g mi mr Q := tw_x_iload_n td_79_5 rfl
theorem td_79_6 : decode (tw_cd 79) 6 = .ok (.invokevirtual 37, 3) := by decide +kernel
theorem tz_79_6 {a0 : Int32} : tw_E sc (d + 1) 79 6 [x0, x1, x2] ([.int a0, .ref a]) g mi mr Q = (tw_kd g a = 4 ∧ tw_E sc d 70 0 [some (.ref a), some (.int a0), none, none] [] g mi mr (tw_K sc (d + 1) 79 9 [x0, x1, x2] [] Q)) := tw_x_cv (as := [.int a0]) (r := []) td_79_6 to_79 tc_4_37 to_70 rfl rfl rfl rfl
theorem td_79_9 : decode (tw_cd 79) 9 = .ok (.istore_n 2, 1) := by decide +kernel
theorem tz_79_9 : tw_E sc d 79 9 [x0, x1, x2] (.int v :: st) g mi mr Q = tw_E sc d 79 10 [x0, x1, some (.int v)] st g mi mr Q := tw_x_istore_n td_79_9 tp_79 rfl
theorem td_79_10 : decode (tw_cd 79) 10 = .ok (.iload_n 2, 1) := by decide +kernel
theorem tz_79_10 : tw_E sc d 79 10 [x0, x1, some (.int v)] st g mi mr Q = tw_E sc d 79 11 [x0, x1, some (.int v)] (.int v :: st) g mi mr Q := tw_x_iload_n td_79_10 rfl
theorem td_79_11 : decode (tw_cd 79) 11 = .ok (.ifCond .ge 5, 3) := by decide +kernel
theorem tz_79_11 : tw_E sc d 79 11 [x0, x1, x2] (.int v :: st) g mi mr Q = if 0 ≤ v then tw_E sc d 79 16 [x0, x1, x2] st g mi mr Q else tw_E sc d 79 14 [x0, x1, x2] st g mi mr Q := tw_x_if_ge td_79_11 (by decide)
theorem td_79_14 : decode (tw_cd 79) 14 = .ok (.iload_n 2, 1) := by decide +kernel
theorem tz_79_14 : tw_E sc d 79 14 [x0, x1, some (.int v)] st g mi mr Q = tw_E sc d 79 15 [x0, x1, some (.int v)] (.int v :: st) g mi mr Q := tw_x_iload_n td_79_14 rfl
theorem td_79_15 : decode (tw_cd 79) 15 = .ok (.ireturn, 1) := by decide +kernel
theorem tz_79_15 : tw_E sc d 79 15 [x0, x1, x2] ([.int v]) g mi mr Q = Q (some (.int v)) g mi mr := tw_x_iret td_79_15 tr_79
theorem td_79_16 : decode (tw_cd 79) 16 = .ok (.aload_n 0, 1) := by decide +kernel
theorem tz_79_16 : tw_E sc d 79 16 [some (.ref a), x1, x2] st g mi mr Q = tw_E sc d 79 17 [some (.ref a), x1, x2] (.ref a :: st) g mi mr Q := tw_x_aload_n td_79_16 rfl
theorem td_79_17 : decode (tw_cd 79) 17 = .ok (.bipush 41, 2) := by decide +kernel
theorem tz_79_17 : tw_E sc d 79 17 [x0, x1, x2] st g mi mr Q = tw_E sc d 79 19 [x0, x1, x2] (.int 41 :: st) g mi mr Q := tw_x_bipush td_79_17 (by decide)
theorem td_79_19 : decode (tw_cd 79) 19 = .ok (.invokevirtual 72, 3) := by decide +kernel
theorem tz_79_19 {a0 : Int32} : tw_E sc (d + 1) 79 19 [x0, x1, x2] ([.int a0, .ref a]) g mi mr Q = (tw_kd g a = 4 ∧ tw_E sc d 82 0 [some (.ref a), some (.int a0)] [] g mi mr (tw_K sc (d + 1) 79 22 [x0, x1, x2] [] Q)) := tw_x_cv (as := [.int a0]) (r := []) td_79_19 to_79 tc_4_72 to_82 rfl rfl rfl rfl
theorem td_79_22 : decode (tw_cd 79) 22 = .ok (.ifCond .eq 7, 3) := by decide +kernel
theorem tz_79_22 : tw_E sc d 79 22 [x0, x1, x2] (.int v :: st) g mi mr Q = if v = 0 then tw_E sc d 79 29 [x0, x1, x2] st g mi mr Q else tw_E sc d 79 25 [x0, x1, x2] st g mi mr Q := tw_x_if_eq td_79_22 (by decide)
theorem td_79_25 : decode (tw_cd 79) 25 = .ok (.iload_n 2, 1) := by decide +kernel
theorem tz_79_25 : tw_E sc d 79 25 [x0, x1, some (.int v)] st g mi mr Q = tw_E sc d 79 26 [x0, x1, some (.int v)] (.int v :: st) g mi mr Q := tw_x_iload_n td_79_25 rfl
theorem td_79_26 : decode (tw_cd 79) 26 = .ok (.goto 7, 3) := by decide +kernel
theorem tz_79_26 : tw_E sc d 79 26 [x0, x1, x2] st g mi mr Q = tw_E sc d 79 33 [x0, x1, x2] st g mi mr Q := tw_x_goto td_79_26 (by decide)
theorem td_79_29 : decode (tw_cd 79) 29 = .ok (.aload_n 0, 1) := by decide +kernel
theorem tz_79_29 : tw_E sc d 79 29 [some (.ref a), x1, x2] st g mi mr Q = tw_E sc d 79 30 [some (.ref a), x1, x2] (.ref a :: st) g mi mr Q := tw_x_aload_n td_79_29 rfl
theorem td_79_30 : decode (tw_cd 79) 30 = .ok (.invokevirtual 44, 3) := by decide +kernel
theorem tz_79_30 : tw_E sc (d + 1) 79 30 [x0, x1, x2] ([.ref a]) g mi mr Q = (tw_kd g a = 4 ∧ tw_E sc d 81 0 [some (.ref a)] [] g mi mr (tw_K sc (d + 1) 79 33 [x0, x1, x2] [] Q)) := tw_x_cv (as := []) (r := []) td_79_30 to_79 tc_4_44 to_81 rfl rfl rfl rfl
theorem td_79_33 : decode (tw_cd 79) 33 = .ok (.ireturn, 1) := by decide +kernel
theorem tz_79_33 : tw_E sc d 79 33 [x0, x1, x2] ([.int v]) g mi mr Q = Q (some (.int v)) g mi mr := tw_x_iret td_79_33 tr_79
end tz_79
-- 80: Re_make
section tz_80
variable {sc : Nat × (Nat → Int32)} {d : Nat} {x0 x1 x2 x3 x4 x5 x6 : Option Value} {st : List Value} {g : tw_G} {mi : tw_I} {mr : tw_Q} {Q : Option Value → tw_G → tw_I → tw_Q → Prop} {v w u : Int32} {a b : Nat} {j h : Int64} {s1 s2 s3 s4 : Value}
theorem td_80_0 : decode (tw_cd 80) 0 = .ok (.aload_n 0, 1) := by decide +kernel
theorem tz_80_0 : tw_E sc d 80 0 [some (.ref a), x1, x2, x3, x4, x5, x6] st g mi mr Q = tw_E sc d 80 1 [some (.ref a), x1, x2, x3, x4, x5, x6] (.ref a :: st) g mi mr Q := tw_x_aload_n td_80_0 rfl
theorem td_80_1 : decode (tw_cd 80) 1 = .ok (.getfield 22, 3) := by decide +kernel
theorem tz_80_1 : tw_E sc d 80 1 [x0, x1, x2, x3, x4, x5, x6] (.ref a :: st) g mi mr Q = (tw_kd g a = 4 ∧ tw_E sc d 80 4 [x0, x1, x2, x3, x4, x5, x6] (va_rf (mr a 1) :: st) g mi mr Q) := tw_x_getr td_80_1 to_80 tf_4_22 (trf_4_1)
theorem td_80_4 : decode (tw_cd 80) 4 = .ok (.iload_n 1, 1) := by decide +kernel
theorem tz_80_4 : tw_E sc d 80 4 [x0, some (.int v), x2, x3, x4, x5, x6] st g mi mr Q = tw_E sc d 80 5 [x0, some (.int v), x2, x3, x4, x5, x6] (.int v :: st) g mi mr Q := tw_x_iload_n td_80_4 rfl
theorem td_80_5 : decode (tw_cd 80) 5 = .ok (.iload_n 2, 1) := by decide +kernel
theorem tz_80_5 : tw_E sc d 80 5 [x0, x1, some (.int v), x3, x4, x5, x6] st g mi mr Q = tw_E sc d 80 6 [x0, x1, some (.int v), x3, x4, x5, x6] (.int v :: st) g mi mr Q := tw_x_iload_n td_80_5 rfl
theorem td_80_6 : decode (tw_cd 80) 6 = .ok (.iload_n 3, 1) := by decide +kernel
theorem tz_80_6 : tw_E sc d 80 6 [x0, x1, x2, some (.int v), x4, x5, x6] st g mi mr Q = tw_E sc d 80 7 [x0, x1, x2, some (.int v), x4, x5, x6] (.int v :: st) g mi mr Q := tw_x_iload_n td_80_6 rfl
theorem td_80_7 : decode (tw_cd 80) 7 = .ok (.iload 4, 2) := by decide +kernel
theorem tz_80_7 : tw_E sc d 80 7 [x0, x1, x2, x3, some (.int v), x5, x6] st g mi mr Q = tw_E sc d 80 9 [x0, x1, x2, x3, some (.int v), x5, x6] (.int v :: st) g mi mr Q := tw_x_iload td_80_7 rfl
theorem td_80_9 : decode (tw_cd 80) 9 = .ok (.iload 5, 2) := by decide +kernel
theorem tz_80_9 : tw_E sc d 80 9 [x0, x1, x2, x3, x4, some (.int v), x6] st g mi mr Q = tw_E sc d 80 11 [x0, x1, x2, x3, x4, some (.int v), x6] (.int v :: st) g mi mr Q := tw_x_iload td_80_9 rfl
theorem td_80_11 : decode (tw_cd 80) 11 = .ok (.invokevirtual 100, 3) := by decide +kernel
theorem tz_80_11 {a0 : Int32} {a1 : Int32} {a2 : Int32} {a3 : Int32} {a4 : Int32} : tw_E sc (d + 1) 80 11 [x0, x1, x2, x3, x4, x5, x6] ([.int a4, .int a3, .int a2, .int a1, .int a0, .ref a]) g mi mr Q = (tw_kd g a = 1 ∧ tw_E sc d 38 0 [some (.ref a), some (.int a0), some (.int a1), some (.int a2), some (.int a3), some (.int a4)] [] g mi mr (tw_K sc (d + 1) 80 14 [x0, x1, x2, x3, x4, x5, x6] [] Q)) := tw_x_cv (as := [.int a0, .int a1, .int a2, .int a3, .int a4]) (r := []) td_80_11 to_80 tc_4_100 to_38 rfl rfl rfl rfl
theorem td_80_14 : decode (tw_cd 80) 14 = .ok (.istore 6, 2) := by decide +kernel
theorem tz_80_14 : tw_E sc d 80 14 [x0, x1, x2, x3, x4, x5, x6] (.int v :: st) g mi mr Q = tw_E sc d 80 16 [x0, x1, x2, x3, x4, x5, some (.int v)] st g mi mr Q := tw_x_istore td_80_14 tp_80 rfl
theorem td_80_16 : decode (tw_cd 80) 16 = .ok (.iload 6, 2) := by decide +kernel
theorem tz_80_16 : tw_E sc d 80 16 [x0, x1, x2, x3, x4, x5, some (.int v)] st g mi mr Q = tw_E sc d 80 18 [x0, x1, x2, x3, x4, x5, some (.int v)] (.int v :: st) g mi mr Q := tw_x_iload td_80_16 rfl
theorem td_80_18 : decode (tw_cd 80) 18 = .ok (.ifCond .ge 10, 3) := by decide +kernel
theorem tz_80_18 : tw_E sc d 80 18 [x0, x1, x2, x3, x4, x5, x6] (.int v :: st) g mi mr Q = if 0 ≤ v then tw_E sc d 80 28 [x0, x1, x2, x3, x4, x5, x6] st g mi mr Q else tw_E sc d 80 21 [x0, x1, x2, x3, x4, x5, x6] st g mi mr Q := tw_x_if_ge td_80_18 (by decide)
theorem td_80_21 : decode (tw_cd 80) 21 = .ok (.aload_n 0, 1) := by decide +kernel
theorem tz_80_21 : tw_E sc d 80 21 [some (.ref a), x1, x2, x3, x4, x5, x6] st g mi mr Q = tw_E sc d 80 22 [some (.ref a), x1, x2, x3, x4, x5, x6] (.ref a :: st) g mi mr Q := tw_x_aload_n td_80_21 rfl
theorem td_80_22 : decode (tw_cd 80) 22 = .ok (.invokevirtual 44, 3) := by decide +kernel
theorem tz_80_22 : tw_E sc (d + 1) 80 22 [x0, x1, x2, x3, x4, x5, x6] ([.ref a]) g mi mr Q = (tw_kd g a = 4 ∧ tw_E sc d 81 0 [some (.ref a)] [] g mi mr (tw_K sc (d + 1) 80 25 [x0, x1, x2, x3, x4, x5, x6] [] Q)) := tw_x_cv (as := []) (r := []) td_80_22 to_80 tc_4_44 to_81 rfl rfl rfl rfl
theorem td_80_25 : decode (tw_cd 80) 25 = .ok (.goto 5, 3) := by decide +kernel
theorem tz_80_25 : tw_E sc d 80 25 [x0, x1, x2, x3, x4, x5, x6] st g mi mr Q = tw_E sc d 80 30 [x0, x1, x2, x3, x4, x5, x6] st g mi mr Q := tw_x_goto td_80_25 (by decide)
theorem td_80_28 : decode (tw_cd 80) 28 = .ok (.iload 6, 2) := by decide +kernel
theorem tz_80_28 : tw_E sc d 80 28 [x0, x1, x2, x3, x4, x5, some (.int v)] st g mi mr Q = tw_E sc d 80 30 [x0, x1, x2, x3, x4, x5, some (.int v)] (.int v :: st) g mi mr Q := tw_x_iload td_80_28 rfl
theorem td_80_30 : decode (tw_cd 80) 30 = .ok (.ireturn, 1) := by decide +kernel
theorem tz_80_30 : tw_E sc d 80 30 [x0, x1, x2, x3, x4, x5, x6] ([.int v]) g mi mr Q = Q (some (.int v)) g mi mr := tw_x_iret td_80_30 tr_80
end tz_80
-- 81: Re_refuse
section tz_81
variable {sc : Nat × (Nat → Int32)} {d : Nat} {x0 : Option Value} {st : List Value} {g : tw_G} {mi : tw_I} {mr : tw_Q} {Q : Option Value → tw_G → tw_I → tw_Q → Prop} {v w u : Int32} {a b : Nat} {j h : Int64} {s1 s2 s3 s4 : Value}
theorem td_81_0 : decode (tw_cd 81) 0 = .ok (.aload_n 0, 1) := by decide +kernel
theorem tz_81_0 : tw_E sc d 81 0 [some (.ref a)] st g mi mr Q = tw_E sc d 81 1 [some (.ref a)] (.ref a :: st) g mi mr Q := tw_x_aload_n td_81_0 rfl
theorem td_81_1 : decode (tw_cd 81) 1 = .ok (.getfield 9, 3) := by decide +kernel
theorem tz_81_1 : tw_E sc d 81 1 [x0] (.ref a :: st) g mi mr Q = (tw_kd g a = 4 ∧ tw_E sc d 81 4 [x0] (.int (mi a 6) :: st) g mi mr Q) := tw_x_geti td_81_1 to_81 tf_4_9 (trf_4_6)
theorem td_81_4 : decode (tw_cd 81) 4 = .ok (.bipush (-9), 2) := by decide +kernel
theorem tz_81_4 : tw_E sc d 81 4 [x0] st g mi mr Q = tw_E sc d 81 6 [x0] (.int (-9) :: st) g mi mr Q := tw_x_bipush td_81_4 (by decide)
theorem td_81_6 : decode (tw_cd 81) 6 = .ok (.if_icmp .ne 11, 3) := by decide +kernel
theorem tz_81_6 : tw_E sc d 81 6 [x0] (.int w :: .int v :: st) g mi mr Q = if ¬ v = w then tw_E sc d 81 17 [x0] st g mi mr Q else tw_E sc d 81 9 [x0] st g mi mr Q := tw_x_ic_ne td_81_6 (by decide)
theorem td_81_9 : decode (tw_cd 81) 9 = .ok (.aload_n 0, 1) := by decide +kernel
theorem tz_81_9 : tw_E sc d 81 9 [some (.ref a)] st g mi mr Q = tw_E sc d 81 10 [some (.ref a)] (.ref a :: st) g mi mr Q := tw_x_aload_n td_81_9 rfl
theorem td_81_10 : decode (tw_cd 81) 10 = .ok (.aload_n 0, 1) := by decide +kernel
theorem tz_81_10 : tw_E sc d 81 10 [some (.ref a)] st g mi mr Q = tw_E sc d 81 11 [some (.ref a)] (.ref a :: st) g mi mr Q := tw_x_aload_n td_81_10 rfl
theorem td_81_11 : decode (tw_cd 81) 11 = .ok (.getfield 76, 3) := by decide +kernel
theorem tz_81_11 : tw_E sc d 81 11 [x0] (.ref a :: st) g mi mr Q = (tw_kd g a = 4 ∧ tw_E sc d 81 14 [x0] (.int (mi a 4) :: st) g mi mr Q) := tw_x_geti td_81_11 to_81 tf_4_76 (trf_4_4)
theorem td_81_14 : decode (tw_cd 81) 14 = .ok (.putfield 9, 3) := by decide +kernel
theorem tz_81_14 : tw_E sc d 81 14 [x0] (.int v :: .ref a :: st) g mi mr Q = (tw_kd g a = 4 ∧ tw_E sc d 81 17 [x0] st g (tw_st mi a (tw_st (mi a) 6 v)) mr Q) := tw_x_puti td_81_14 to_81 tf_4_9 rfl rfl
theorem td_81_17 : decode (tw_cd 81) 17 = .ok (.bipush (-9), 2) := by decide +kernel
theorem tz_81_17 : tw_E sc d 81 17 [x0] st g mi mr Q = tw_E sc d 81 19 [x0] (.int (-9) :: st) g mi mr Q := tw_x_bipush td_81_17 (by decide)
theorem td_81_19 : decode (tw_cd 81) 19 = .ok (.ireturn, 1) := by decide +kernel
theorem tz_81_19 : tw_E sc d 81 19 [x0] ([.int v]) g mi mr Q = Q (some (.int v)) g mi mr := tw_x_iret td_81_19 tr_81
end tz_81
-- 82: Re_passes
section tz_82
variable {sc : Nat × (Nat → Int32)} {d : Nat} {x0 x1 : Option Value} {st : List Value} {g : tw_G} {mi : tw_I} {mr : tw_Q} {Q : Option Value → tw_G → tw_I → tw_Q → Prop} {v w u : Int32} {a b : Nat} {j h : Int64} {s1 s2 s3 s4 : Value}
theorem td_82_0 : decode (tw_cd 82) 0 = .ok (.aload_n 0, 1) := by decide +kernel
theorem tz_82_0 : tw_E sc d 82 0 [some (.ref a), x1] st g mi mr Q = tw_E sc d 82 1 [some (.ref a), x1] (.ref a :: st) g mi mr Q := tw_x_aload_n td_82_0 rfl
theorem td_82_1 : decode (tw_cd 82) 1 = .ok (.getfield 41, 3) := by decide +kernel
theorem tz_82_1 : tw_E sc d 82 1 [x0, x1] (.ref a :: st) g mi mr Q = (tw_kd g a = 4 ∧ tw_E sc d 82 4 [x0, x1] (.int (mi a 2) :: st) g mi mr Q) := tw_x_geti td_82_1 to_82 tf_4_41 (trf_4_2)
theorem td_82_4 : decode (tw_cd 82) 4 = .ok (.iload_n 1, 1) := by decide +kernel
theorem tz_82_4 : tw_E sc d 82 4 [x0, some (.int v)] st g mi mr Q = tw_E sc d 82 5 [x0, some (.int v)] (.int v :: st) g mi mr Q := tw_x_iload_n td_82_4 rfl
theorem td_82_5 : decode (tw_cd 82) 5 = .ok (.if_icmp .eq 5, 3) := by decide +kernel
theorem tz_82_5 : tw_E sc d 82 5 [x0, x1] (.int w :: .int v :: st) g mi mr Q = if v = w then tw_E sc d 82 10 [x0, x1] st g mi mr Q else tw_E sc d 82 8 [x0, x1] st g mi mr Q := tw_x_ic_eq td_82_5 (by decide)
theorem td_82_8 : decode (tw_cd 82) 8 = .ok (.iconst 0, 1) := by decide +kernel
theorem tz_82_8 : tw_E sc d 82 8 [x0, x1] st g mi mr Q = tw_E sc d 82 9 [x0, x1] (.int 0 :: st) g mi mr Q := tw_x_iconst td_82_8 (by decide)
theorem td_82_9 : decode (tw_cd 82) 9 = .ok (.ireturn, 1) := by decide +kernel
theorem tz_82_9 : tw_E sc d 82 9 [x0, x1] ([.int v]) g mi mr Q = ((v = 0 ∨ v = 1) ∧ Q (some (.int v)) g mi mr) := tw_x_zret td_82_9 tr_82
theorem td_82_10 : decode (tw_cd 82) 10 = .ok (.aload_n 0, 1) := by decide +kernel
theorem tz_82_10 : tw_E sc d 82 10 [some (.ref a), x1] st g mi mr Q = tw_E sc d 82 11 [some (.ref a), x1] (.ref a :: st) g mi mr Q := tw_x_aload_n td_82_10 rfl
theorem td_82_11 : decode (tw_cd 82) 11 = .ok (.invokevirtual 34, 3) := by decide +kernel
theorem tz_82_11 : tw_E sc (d + 1) 82 11 [x0, x1] ([.ref a]) g mi mr Q = (tw_kd g a = 4 ∧ tw_E sc d 83 0 [some (.ref a)] [] g mi mr (tw_K sc (d + 1) 82 14 [x0, x1] [] Q)) := tw_x_cv (as := []) (r := []) td_82_11 to_82 tc_4_34 to_83 rfl rfl rfl rfl
theorem td_82_14 : decode (tw_cd 82) 14 = .ok (.iconst 1, 1) := by decide +kernel
theorem tz_82_14 : tw_E sc d 82 14 [x0, x1] st g mi mr Q = tw_E sc d 82 15 [x0, x1] (.int 1 :: st) g mi mr Q := tw_x_iconst td_82_14 (by decide)
theorem td_82_15 : decode (tw_cd 82) 15 = .ok (.ireturn, 1) := by decide +kernel
theorem tz_82_15 : tw_E sc d 82 15 [x0, x1] ([.int v]) g mi mr Q = ((v = 0 ∨ v = 1) ∧ Q (some (.int v)) g mi mr) := tw_x_zret td_82_15 tr_82
end tz_82
-- 83: Re_advance
section tz_83
variable {sc : Nat × (Nat → Int32)} {d : Nat} {x0 : Option Value} {st : List Value} {g : tw_G} {mi : tw_I} {mr : tw_Q} {Q : Option Value → tw_G → tw_I → tw_Q → Prop} {v w u : Int32} {a b : Nat} {j h : Int64} {s1 s2 s3 s4 : Value}
theorem td_83_0 : decode (tw_cd 83) 0 = .ok (.aload_n 0, 1) := by decide +kernel
theorem tz_83_0 : tw_E sc d 83 0 [some (.ref a)] st g mi mr Q = tw_E sc d 83 1 [some (.ref a)] (.ref a :: st) g mi mr Q := tw_x_aload_n td_83_0 rfl
theorem td_83_1 : decode (tw_cd 83) 1 = .ok (.aload_n 0, 1) := by decide +kernel
theorem tz_83_1 : tw_E sc d 83 1 [some (.ref a)] st g mi mr Q = tw_E sc d 83 2 [some (.ref a)] (.ref a :: st) g mi mr Q := tw_x_aload_n td_83_1 rfl
theorem td_83_2 : decode (tw_cd 83) 2 = .ok (.getfield 18, 3) := by decide +kernel
theorem tz_83_2 : tw_E sc d 83 2 [x0] (.ref a :: st) g mi mr Q = (tw_kd g a = 4 ∧ tw_E sc d 83 5 [x0] (va_rf (mr a 0) :: st) g mi mr Q) := tw_x_getr td_83_2 to_83 tf_4_18 (trf_4_0)
theorem td_83_5 : decode (tw_cd 83) 5 = .ok (.aload_n 0, 1) := by decide +kernel
theorem tz_83_5 : tw_E sc d 83 5 [some (.ref a)] st g mi mr Q = tw_E sc d 83 6 [some (.ref a)] (.ref a :: st) g mi mr Q := tw_x_aload_n td_83_5 rfl
theorem td_83_6 : decode (tw_cd 83) 6 = .ok (.getfield 31, 3) := by decide +kernel
theorem tz_83_6 : tw_E sc d 83 6 [x0] (.ref a :: st) g mi mr Q = (tw_kd g a = 4 ∧ tw_E sc d 83 9 [x0] (.int (mi a 5) :: st) g mi mr Q) := tw_x_geti td_83_6 to_83 tf_4_31 (trf_4_5)
theorem td_83_9 : decode (tw_cd 83) 9 = .ok (.invokevirtual 103, 3) := by decide +kernel
theorem tz_83_9 {a0 : Int32} : tw_E sc (d + 1) 83 9 [x0] ([.int a0, .ref a, s1]) g mi mr Q = (tw_kd g a = 3 ∧ tw_E sc d 63 0 [some (.ref a), some (.int a0), none] [] g mi mr (tw_K sc (d + 1) 83 12 [x0] [s1] Q)) := tw_x_cv (as := [.int a0]) (r := [s1]) td_83_9 to_83 tc_4_103 to_63 rfl rfl rfl rfl
theorem td_83_12 : decode (tw_cd 83) 12 = .ok (.putfield 76, 3) := by decide +kernel
theorem tz_83_12 : tw_E sc d 83 12 [x0] (.int v :: .ref a :: st) g mi mr Q = (tw_kd g a = 4 ∧ tw_E sc d 83 15 [x0] st g (tw_st mi a (tw_st (mi a) 4 v)) mr Q) := tw_x_puti td_83_12 to_83 tf_4_76 rfl rfl
theorem td_83_15 : decode (tw_cd 83) 15 = .ok (.aload_n 0, 1) := by decide +kernel
theorem tz_83_15 : tw_E sc d 83 15 [some (.ref a)] st g mi mr Q = tw_E sc d 83 16 [some (.ref a)] (.ref a :: st) g mi mr Q := tw_x_aload_n td_83_15 rfl
theorem td_83_16 : decode (tw_cd 83) 16 = .ok (.aload_n 0, 1) := by decide +kernel
theorem tz_83_16 : tw_E sc d 83 16 [some (.ref a)] st g mi mr Q = tw_E sc d 83 17 [some (.ref a)] (.ref a :: st) g mi mr Q := tw_x_aload_n td_83_16 rfl
theorem td_83_17 : decode (tw_cd 83) 17 = .ok (.getfield 18, 3) := by decide +kernel
theorem tz_83_17 : tw_E sc d 83 17 [x0] (.ref a :: st) g mi mr Q = (tw_kd g a = 4 ∧ tw_E sc d 83 20 [x0] (va_rf (mr a 0) :: st) g mi mr Q) := tw_x_getr td_83_17 to_83 tf_4_18 (trf_4_0)
theorem td_83_20 : decode (tw_cd 83) 20 = .ok (.aload_n 0, 1) := by decide +kernel
theorem tz_83_20 : tw_E sc d 83 20 [some (.ref a)] st g mi mr Q = tw_E sc d 83 21 [some (.ref a)] (.ref a :: st) g mi mr Q := tw_x_aload_n td_83_20 rfl
theorem td_83_21 : decode (tw_cd 83) 21 = .ok (.getfield 76, 3) := by decide +kernel
theorem tz_83_21 : tw_E sc d 83 21 [x0] (.ref a :: st) g mi mr Q = (tw_kd g a = 4 ∧ tw_E sc d 83 24 [x0] (.int (mi a 4) :: st) g mi mr Q) := tw_x_geti td_83_21 to_83 tf_4_76 (trf_4_4)
theorem td_83_24 : decode (tw_cd 83) 24 = .ok (.invokevirtual 108, 3) := by decide +kernel
theorem tz_83_24 {a0 : Int32} : tw_E sc (d + 1) 83 24 [x0] ([.int a0, .ref a, s1]) g mi mr Q = (tw_kd g a = 3 ∧ tw_E sc d 62 0 [some (.ref a), some (.int a0)] [] g mi mr (tw_K sc (d + 1) 83 27 [x0] [s1] Q)) := tw_x_cv (as := [.int a0]) (r := [s1]) td_83_24 to_83 tc_4_108 to_62 rfl rfl rfl rfl
theorem td_83_27 : decode (tw_cd 83) 27 = .ok (.putfield 41, 3) := by decide +kernel
theorem tz_83_27 : tw_E sc d 83 27 [x0] (.int v :: .ref a :: st) g mi mr Q = (tw_kd g a = 4 ∧ tw_E sc d 83 30 [x0] st g (tw_st mi a (tw_st (mi a) 2 v)) mr Q) := tw_x_puti td_83_27 to_83 tf_4_41 rfl rfl
theorem td_83_30 : decode (tw_cd 83) 30 = .ok (.aload_n 0, 1) := by decide +kernel
theorem tz_83_30 : tw_E sc d 83 30 [some (.ref a)] st g mi mr Q = tw_E sc d 83 31 [some (.ref a)] (.ref a :: st) g mi mr Q := tw_x_aload_n td_83_30 rfl
theorem td_83_31 : decode (tw_cd 83) 31 = .ok (.getfield 41, 3) := by decide +kernel
theorem tz_83_31 : tw_E sc d 83 31 [x0] (.ref a :: st) g mi mr Q = (tw_kd g a = 4 ∧ tw_E sc d 83 34 [x0] (.int (mi a 2) :: st) g mi mr Q) := tw_x_geti td_83_31 to_83 tf_4_41 (trf_4_2)
theorem td_83_34 : decode (tw_cd 83) 34 = .ok (.invokestatic 111, 3) := by decide +kernel
theorem tz_83_34 {a0 : Int32} : tw_E sc (d + 1) 83 34 [x0] ([.int a0]) g mi mr Q = tw_E sc d 86 0 [some (.int a0)] [] g mi mr (tw_K sc (d + 1) 83 37 [x0] [] Q) := tw_x_cs (as := [.int a0]) (r := []) td_83_34 to_83 tmn_4_111 tc_4_111 rfl rfl rfl rfl rfl
theorem td_83_37 : decode (tw_cd 83) 37 = .ok (.ifCond .eq 10, 3) := by decide +kernel
theorem tz_83_37 : tw_E sc d 83 37 [x0] (.int v :: st) g mi mr Q = if v = 0 then tw_E sc d 83 47 [x0] st g mi mr Q else tw_E sc d 83 40 [x0] st g mi mr Q := tw_x_if_eq td_83_37 (by decide)
theorem td_83_40 : decode (tw_cd 83) 40 = .ok (.aload_n 0, 1) := by decide +kernel
theorem tz_83_40 : tw_E sc d 83 40 [some (.ref a)] st g mi mr Q = tw_E sc d 83 41 [some (.ref a)] (.ref a :: st) g mi mr Q := tw_x_aload_n td_83_40 rfl
theorem td_83_41 : decode (tw_cd 83) 41 = .ok (.invokevirtual 114, 3) := by decide +kernel
theorem tz_83_41 : tw_E sc (d + 1) 83 41 [x0] ([.ref a]) g mi mr Q = (tw_kd g a = 4 ∧ tw_E sc d 84 0 [some (.ref a), none] [] g mi mr (tw_K sc (d + 1) 83 44 [x0] [] Q)) := tw_x_cv (as := []) (r := []) td_83_41 to_83 tc_4_114 to_84 rfl rfl rfl rfl
theorem td_83_44 : decode (tw_cd 83) 44 = .ok (.goto 30, 3) := by decide +kernel
theorem tz_83_44 : tw_E sc d 83 44 [x0] st g mi mr Q = tw_E sc d 83 74 [x0] st g mi mr Q := tw_x_goto td_83_44 (by decide)
theorem td_83_47 : decode (tw_cd 83) 47 = .ok (.aload_n 0, 1) := by decide +kernel
theorem tz_83_47 : tw_E sc d 83 47 [some (.ref a)] st g mi mr Q = tw_E sc d 83 48 [some (.ref a)] (.ref a :: st) g mi mr Q := tw_x_aload_n td_83_47 rfl
theorem td_83_48 : decode (tw_cd 83) 48 = .ok (.aload_n 0, 1) := by decide +kernel
theorem tz_83_48 : tw_E sc d 83 48 [some (.ref a)] st g mi mr Q = tw_E sc d 83 49 [some (.ref a)] (.ref a :: st) g mi mr Q := tw_x_aload_n td_83_48 rfl
theorem td_83_49 : decode (tw_cd 83) 49 = .ok (.getfield 41, 3) := by decide +kernel
theorem tz_83_49 : tw_E sc d 83 49 [x0] (.ref a :: st) g mi mr Q = (tw_kd g a = 4 ∧ tw_E sc d 83 52 [x0] (.int (mi a 2) :: st) g mi mr Q) := tw_x_geti td_83_49 to_83 tf_4_41 (trf_4_2)
theorem td_83_52 : decode (tw_cd 83) 52 = .ok (.sipush 257, 3) := by decide +kernel
theorem tz_83_52 : tw_E sc d 83 52 [x0] st g mi mr Q = tw_E sc d 83 55 [x0] (.int 257 :: st) g mi mr Q := tw_x_sipush td_83_52 (by decide)
theorem td_83_55 : decode (tw_cd 83) 55 = .ok (.if_icmp .ne 10, 3) := by decide +kernel
theorem tz_83_55 : tw_E sc d 83 55 [x0] (.int w :: .int v :: st) g mi mr Q = if ¬ v = w then tw_E sc d 83 65 [x0] st g mi mr Q else tw_E sc d 83 58 [x0] st g mi mr Q := tw_x_ic_ne td_83_55 (by decide)
theorem td_83_58 : decode (tw_cd 83) 58 = .ok (.aload_n 0, 1) := by decide +kernel
theorem tz_83_58 : tw_E sc d 83 58 [some (.ref a)] st g mi mr Q = tw_E sc d 83 59 [some (.ref a)] (.ref a :: st) g mi mr Q := tw_x_aload_n td_83_58 rfl
theorem td_83_59 : decode (tw_cd 83) 59 = .ok (.getfield 76, 3) := by decide +kernel
theorem tz_83_59 : tw_E sc d 83 59 [x0] (.ref a :: st) g mi mr Q = (tw_kd g a = 4 ∧ tw_E sc d 83 62 [x0] (.int (mi a 4) :: st) g mi mr Q) := tw_x_geti td_83_59 to_83 tf_4_76 (trf_4_4)
theorem td_83_62 : decode (tw_cd 83) 62 = .ok (.goto 9, 3) := by decide +kernel
theorem tz_83_62 : tw_E sc d 83 62 [x0] st g mi mr Q = tw_E sc d 83 71 [x0] st g mi mr Q := tw_x_goto td_83_62 (by decide)
theorem td_83_65 : decode (tw_cd 83) 65 = .ok (.aload_n 0, 1) := by decide +kernel
theorem tz_83_65 : tw_E sc d 83 65 [some (.ref a)] st g mi mr Q = tw_E sc d 83 66 [some (.ref a)] (.ref a :: st) g mi mr Q := tw_x_aload_n td_83_65 rfl
theorem td_83_66 : decode (tw_cd 83) 66 = .ok (.getfield 76, 3) := by decide +kernel
theorem tz_83_66 : tw_E sc d 83 66 [x0] (.ref a :: st) g mi mr Q = (tw_kd g a = 4 ∧ tw_E sc d 83 69 [x0] (.int (mi a 4) :: st) g mi mr Q) := tw_x_geti td_83_66 to_83 tf_4_76 (trf_4_4)
theorem td_83_69 : decode (tw_cd 83) 69 = .ok (.iconst 1, 1) := by decide +kernel
theorem tz_83_69 : tw_E sc d 83 69 [x0] st g mi mr Q = tw_E sc d 83 70 [x0] (.int 1 :: st) g mi mr Q := tw_x_iconst td_83_69 (by decide)
theorem td_83_70 : decode (tw_cd 83) 70 = .ok (.iadd, 1) := by decide +kernel
theorem tz_83_70 : tw_E sc d 83 70 [x0] (.int w :: .int v :: st) g mi mr Q = tw_E sc d 83 71 [x0] (.int (v + w) :: st) g mi mr Q := tw_x_iadd td_83_70
theorem td_83_71 : decode (tw_cd 83) 71 = .ok (.putfield 31, 3) := by decide +kernel
theorem tz_83_71 : tw_E sc d 83 71 [x0] (.int v :: .ref a :: st) g mi mr Q = (tw_kd g a = 4 ∧ tw_E sc d 83 74 [x0] st g (tw_st mi a (tw_st (mi a) 5 v)) mr Q) := tw_x_puti td_83_71 to_83 tf_4_31 rfl rfl
theorem td_83_74 : decode (tw_cd 83) 74 = .ok (.return_, 1) := by decide +kernel
theorem tz_83_74 : tw_E sc d 83 74 [x0] [] g mi mr Q = Q none g mi mr := tw_x_vret td_83_74 tr_83
end tz_83
