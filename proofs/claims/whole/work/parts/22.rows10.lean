/-! a row for each instruction: printed by wip/whole/gen3.py -/
-- 174: La_law
section tz_174
variable {sc : Nat × (Nat → Int32)} {d : Nat} {x0 x1 x2 x3 : Option Value} {st : List Value} {g : tw_G} {mi : tw_I} {mr : tw_Q} {Q : Option Value → tw_G → tw_I → tw_Q → Prop} {v w u : Int32} {a b : Nat} {j h : Int64} {s1 s2 s3 s4 : Value}
theorem td_174_0 : decode (tw_cd 174) 0 = .ok (.new 7, 3) := by decide +kernel
theorem tz_174_0 : tw_E sc d 174 0 [x0, x1, x2, x3] st g mi mr Q = tw_E sc d 174 3 [x0, x1, x2, x3] (.ref g.1 :: st) (tw_gn g 0 0 9) (tw_st mi g.1 (fun _ => 0)) (tw_st mr g.1 (fun _ => none)) Q := tw_x_new td_174_0 to_174 tn_11_7 rfl
theorem td_174_3 : decode (tw_cd 174) 3 = .ok (.dup, 1) := by decide +kernel
theorem tz_174_3 : tw_E sc d 174 3 [x0, x1, x2, x3] (.ref a :: st) g mi mr Q = tw_E sc d 174 4 [x0, x1, x2, x3] (.ref a :: .ref a :: st) g mi mr Q := tw_x_dup_ref td_174_3
theorem td_174_4 : decode (tw_cd 174) 4 = .ok (.invokespecial 9, 3) := by decide +kernel
theorem tz_174_4 : tw_E sc (d + 1) 174 4 [x0, x1, x2, x3] ([.ref a, s1]) g mi mr Q = tw_E sc d 0 0 [some (.ref a)] [] g mi mr (tw_K sc (d + 1) 174 7 [x0, x1, x2, x3] [s1] Q) := tw_x_ci (as := []) (r := [s1]) td_174_4 to_174 tin_11_9 tc_11_9 rfl rfl rfl rfl rfl
theorem td_174_7 : decode (tw_cd 174) 7 = .ok (.astore_n 1, 1) := by decide +kernel
theorem tz_174_7 : tw_E sc d 174 7 [x0, x1, x2, x3] (.ref a :: st) g mi mr Q = tw_E sc d 174 8 [x0, some (.ref a), x2, x3] st g mi mr Q := tw_x_astore_n td_174_7 tp_174 rfl
theorem tz_174_7n : tw_E sc d 174 7 [x0, x1, x2, x3] (.null :: st) g mi mr Q = tw_E sc d 174 8 [x0, some .null, x2, x3] st g mi mr Q := tw_x_astore_nN td_174_7 tp_174 rfl
theorem td_174_8 : decode (tw_cd 174) 8 = .ok (.new 10, 3) := by decide +kernel
theorem tz_174_8 : tw_E sc d 174 8 [x0, x1, x2, x3] st g mi mr Q = tw_E sc d 174 11 [x0, x1, x2, x3] (.ref g.1 :: st) (tw_gn g 10 0 41) (tw_st mi g.1 (fun _ => 0)) (tw_st mr g.1 (fun _ => none)) Q := tw_x_new td_174_8 to_174 tn_11_10 rfl
theorem td_174_11 : decode (tw_cd 174) 11 = .ok (.dup, 1) := by decide +kernel
theorem tz_174_11 : tw_E sc d 174 11 [x0, x1, x2, x3] (.ref a :: st) g mi mr Q = tw_E sc d 174 12 [x0, x1, x2, x3] (.ref a :: .ref a :: st) g mi mr Q := tw_x_dup_ref td_174_11
theorem td_174_12 : decode (tw_cd 174) 12 = .ok (.invokespecial 12, 3) := by decide +kernel
theorem tz_174_12 : tw_E sc (d + 1) 174 12 [x0, x1, x2, x3] ([.ref a, s1]) g mi mr Q = tw_E sc d 125 0 [some (.ref a)] [] g mi mr (tw_K sc (d + 1) 174 15 [x0, x1, x2, x3] [s1] Q) := tw_x_ci (as := []) (r := [s1]) td_174_12 to_174 tin_11_12 tc_11_12 rfl rfl rfl rfl rfl
theorem td_174_15 : decode (tw_cd 174) 15 = .ok (.astore_n 2, 1) := by decide +kernel
theorem tz_174_15 : tw_E sc d 174 15 [x0, x1, x2, x3] (.ref a :: st) g mi mr Q = tw_E sc d 174 16 [x0, x1, some (.ref a), x3] st g mi mr Q := tw_x_astore_n td_174_15 tp_174 rfl
theorem tz_174_15n : tw_E sc d 174 15 [x0, x1, x2, x3] (.null :: st) g mi mr Q = tw_E sc d 174 16 [x0, x1, some .null, x3] st g mi mr Q := tw_x_astore_nN td_174_15 tp_174 rfl
theorem td_174_16 : decode (tw_cd 174) 16 = .ok (.iconst 0, 1) := by decide +kernel
theorem tz_174_16 : tw_E sc d 174 16 [x0, x1, x2, x3] st g mi mr Q = tw_E sc d 174 17 [x0, x1, x2, x3] (.int 0 :: st) g mi mr Q := tw_x_iconst td_174_16 (by decide)
theorem td_174_17 : decode (tw_cd 174) 17 = .ok (.istore_n 3, 1) := by decide +kernel
theorem tz_174_17 : tw_E sc d 174 17 [x0, x1, x2, x3] (.int v :: st) g mi mr Q = tw_E sc d 174 18 [x0, x1, x2, some (.int v)] st g mi mr Q := tw_x_istore_n td_174_17 tp_174 rfl
theorem td_174_18 : decode (tw_cd 174) 18 = .ok (.iload_n 3, 1) := by decide +kernel
theorem tz_174_18 : tw_E sc d 174 18 [x0, x1, x2, some (.int v)] st g mi mr Q = tw_E sc d 174 19 [x0, x1, x2, some (.int v)] (.int v :: st) g mi mr Q := tw_x_iload_n td_174_18 rfl
theorem td_174_19 : decode (tw_cd 174) 19 = .ok (.aload_n 0, 1) := by decide +kernel
theorem tz_174_19 : tw_E sc d 174 19 [some (.retAddr a), x1, x2, x3] st g mi mr Q = tw_E sc d 174 20 [some (.retAddr a), x1, x2, x3] (.retAddr a :: st) g mi mr Q := tw_x_aload_nS td_174_19 rfl
theorem td_174_20 : decode (tw_cd 174) 20 = .ok (.arraylength, 1) := by decide +kernel
theorem tz_174_20 : tw_E sc d 174 20 [x0, x1, x2, x3] (.retAddr a :: st) g mi mr Q = tw_E sc d 174 21 [x0, x1, x2, x3] (.int (Int32.ofNat sc.1) :: st) g mi mr Q := tw_x_slen td_174_20
theorem td_174_21 : decode (tw_cd 174) 21 = .ok (.bipush 6, 2) := by decide +kernel
theorem tz_174_21 : tw_E sc d 174 21 [x0, x1, x2, x3] st g mi mr Q = tw_E sc d 174 23 [x0, x1, x2, x3] (.int 6 :: st) g mi mr Q := tw_x_bipush td_174_21 (by decide)
theorem td_174_23 : decode (tw_cd 174) 23 = .ok (.isub, 1) := by decide +kernel
theorem tz_174_23 : tw_E sc d 174 23 [x0, x1, x2, x3] (.int w :: .int v :: st) g mi mr Q = tw_E sc d 174 24 [x0, x1, x2, x3] (.int (v - w) :: st) g mi mr Q := tw_x_isub td_174_23
theorem td_174_24 : decode (tw_cd 174) 24 = .ok (.if_icmp .gt 813, 3) := by decide +kernel
theorem tz_174_24 : tw_E sc d 174 24 [x0, x1, x2, x3] (.int w :: .int v :: st) g mi mr Q = if w < v then tw_E sc d 174 837 [x0, x1, x2, x3] st g mi mr Q else tw_E sc d 174 27 [x0, x1, x2, x3] st g mi mr Q := tw_x_ic_gt td_174_24 (by decide)
theorem td_174_27 : decode (tw_cd 174) 27 = .ok (.aload_n 0, 1) := by decide +kernel
theorem tz_174_27 : tw_E sc d 174 27 [some (.retAddr a), x1, x2, x3] st g mi mr Q = tw_E sc d 174 28 [some (.retAddr a), x1, x2, x3] (.retAddr a :: st) g mi mr Q := tw_x_aload_nS td_174_27 rfl
theorem td_174_28 : decode (tw_cd 174) 28 = .ok (.iload_n 3, 1) := by decide +kernel
theorem tz_174_28 : tw_E sc d 174 28 [x0, x1, x2, some (.int v)] st g mi mr Q = tw_E sc d 174 29 [x0, x1, x2, some (.int v)] (.int v :: st) g mi mr Q := tw_x_iload_n td_174_28 rfl
theorem td_174_29 : decode (tw_cd 174) 29 = .ok (.iaload, 1) := by decide +kernel
theorem tz_174_29 : tw_E sc d 174 29 [x0, x1, x2, x3] (.int v :: .retAddr a :: st) g mi mr Q = (vp_in v sc.1 ∧ tw_E sc d 174 30 [x0, x1, x2, x3] (.int (sc.2 v.toNatClampNeg) :: st) g mi mr Q) := tw_x_sald td_174_29
theorem td_174_30 : decode (tw_cd 174) 30 = .ok (.bipush 31, 2) := by decide +kernel
theorem tz_174_30 : tw_E sc d 174 30 [x0, x1, x2, x3] st g mi mr Q = tw_E sc d 174 32 [x0, x1, x2, x3] (.int 31 :: st) g mi mr Q := tw_x_bipush td_174_30 (by decide)
theorem td_174_32 : decode (tw_cd 174) 32 = .ok (.iand, 1) := by decide +kernel
theorem tz_174_32 : tw_E sc d 174 32 [x0, x1, x2, x3] (.int w :: .int v :: st) g mi mr Q = tw_E sc d 174 33 [x0, x1, x2, x3] (.int (v &&& w) :: st) g mi mr Q := tw_x_iand td_174_32
theorem td_174_33 : decode (tw_cd 174) 33 = .ok (.tableswitch 798 0 22 #[107, 160, 173, 186, 199, 242, 255, 288, 311, 334, 357, 380, 403, 446, 469, 482, 515, 538, 571, 604, 637, 680, 775], 107) := by decide +kernel
theorem tz_174_33 : tw_E sc d 174 33 [x0, x1, x2, x3] (.int v :: st) g mi mr Q = tw_E sc d 174 (tw_sw v 0 [140, 193, 206, 219, 232, 275, 288, 321, 344, 367, 390, 413, 436, 479, 502, 515, 548, 571, 604, 637, 670, 713, 808] 831) [x0, x1, x2, x3] st g mi mr Q := tw_x_ts td_174_33 (by decide) (by decide) (by decide)
theorem td_174_140 : decode (tw_cd 174) 140 = .ok (.aload_n 1, 1) := by decide +kernel
theorem tz_174_140 : tw_E sc d 174 140 [x0, some (.ref a), x2, x3] st g mi mr Q = tw_E sc d 174 141 [x0, some (.ref a), x2, x3] (.ref a :: st) g mi mr Q := tw_x_aload_n td_174_140 rfl
theorem tz_174_140n : tw_E sc d 174 140 [x0, some .null, x2, x3] st g mi mr Q = tw_E sc d 174 141 [x0, some .null, x2, x3] (.null :: st) g mi mr Q := tw_x_aload_nN td_174_140 rfl
theorem td_174_141 : decode (tw_cd 174) 141 = .ok (.aload_n 0, 1) := by decide +kernel
theorem tz_174_141 : tw_E sc d 174 141 [some (.retAddr a), x1, x2, x3] st g mi mr Q = tw_E sc d 174 142 [some (.retAddr a), x1, x2, x3] (.retAddr a :: st) g mi mr Q := tw_x_aload_nS td_174_141 rfl
theorem td_174_142 : decode (tw_cd 174) 142 = .ok (.iload_n 3, 1) := by decide +kernel
theorem tz_174_142 : tw_E sc d 174 142 [x0, x1, x2, some (.int v)] st g mi mr Q = tw_E sc d 174 143 [x0, x1, x2, some (.int v)] (.int v :: st) g mi mr Q := tw_x_iload_n td_174_142 rfl
theorem td_174_143 : decode (tw_cd 174) 143 = .ok (.iconst 1, 1) := by decide +kernel
theorem tz_174_143 : tw_E sc d 174 143 [x0, x1, x2, x3] st g mi mr Q = tw_E sc d 174 144 [x0, x1, x2, x3] (.int 1 :: st) g mi mr Q := tw_x_iconst td_174_143 (by decide)
theorem td_174_144 : decode (tw_cd 174) 144 = .ok (.iadd, 1) := by decide +kernel
theorem tz_174_144 : tw_E sc d 174 144 [x0, x1, x2, x3] (.int w :: .int v :: st) g mi mr Q = tw_E sc d 174 145 [x0, x1, x2, x3] (.int (v + w) :: st) g mi mr Q := tw_x_iadd td_174_144
theorem td_174_145 : decode (tw_cd 174) 145 = .ok (.iaload, 1) := by decide +kernel
theorem tz_174_145 : tw_E sc d 174 145 [x0, x1, x2, x3] (.int v :: .retAddr a :: st) g mi mr Q = (vp_in v sc.1 ∧ tw_E sc d 174 146 [x0, x1, x2, x3] (.int (sc.2 v.toNatClampNeg) :: st) g mi mr Q) := tw_x_sald td_174_145
theorem td_174_146 : decode (tw_cd 174) 146 = .ok (.i2l, 1) := by decide +kernel
theorem tz_174_146 : tw_E sc d 174 146 [x0, x1, x2, x3] (.int v :: st) g mi mr Q = tw_E sc d 174 147 [x0, x1, x2, x3] (.long v.toInt64 :: st) g mi mr Q := tw_x_i2l td_174_146
theorem td_174_147 : decode (tw_cd 174) 147 = .ok (.bipush 32, 2) := by decide +kernel
theorem tz_174_147 : tw_E sc d 174 147 [x0, x1, x2, x3] st g mi mr Q = tw_E sc d 174 149 [x0, x1, x2, x3] (.int 32 :: st) g mi mr Q := tw_x_bipush td_174_147 (by decide)
theorem td_174_149 : decode (tw_cd 174) 149 = .ok (.lshl, 1) := by decide +kernel
theorem tz_174_149 : tw_E sc d 174 149 [x0, x1, x2, x3] (.int w :: .long j :: st) g mi mr Q = tw_E sc d 174 150 [x0, x1, x2, x3] (.long (j <<< (w.toInt64 &&& 63)) :: st) g mi mr Q := tw_x_lshl td_174_149
theorem td_174_150 : decode (tw_cd 174) 150 = .ok (.aload_n 0, 1) := by decide +kernel
theorem tz_174_150 : tw_E sc d 174 150 [some (.retAddr a), x1, x2, x3] st g mi mr Q = tw_E sc d 174 151 [some (.retAddr a), x1, x2, x3] (.retAddr a :: st) g mi mr Q := tw_x_aload_nS td_174_150 rfl
theorem td_174_151 : decode (tw_cd 174) 151 = .ok (.iload_n 3, 1) := by decide +kernel
theorem tz_174_151 : tw_E sc d 174 151 [x0, x1, x2, some (.int v)] st g mi mr Q = tw_E sc d 174 152 [x0, x1, x2, some (.int v)] (.int v :: st) g mi mr Q := tw_x_iload_n td_174_151 rfl
theorem td_174_152 : decode (tw_cd 174) 152 = .ok (.iconst 2, 1) := by decide +kernel
theorem tz_174_152 : tw_E sc d 174 152 [x0, x1, x2, x3] st g mi mr Q = tw_E sc d 174 153 [x0, x1, x2, x3] (.int 2 :: st) g mi mr Q := tw_x_iconst td_174_152 (by decide)
theorem td_174_153 : decode (tw_cd 174) 153 = .ok (.iadd, 1) := by decide +kernel
theorem tz_174_153 : tw_E sc d 174 153 [x0, x1, x2, x3] (.int w :: .int v :: st) g mi mr Q = tw_E sc d 174 154 [x0, x1, x2, x3] (.int (v + w) :: st) g mi mr Q := tw_x_iadd td_174_153
theorem td_174_154 : decode (tw_cd 174) 154 = .ok (.iaload, 1) := by decide +kernel
theorem tz_174_154 : tw_E sc d 174 154 [x0, x1, x2, x3] (.int v :: .retAddr a :: st) g mi mr Q = (vp_in v sc.1 ∧ tw_E sc d 174 155 [x0, x1, x2, x3] (.int (sc.2 v.toNatClampNeg) :: st) g mi mr Q) := tw_x_sald td_174_154
theorem td_174_155 : decode (tw_cd 174) 155 = .ok (.i2l, 1) := by decide +kernel
theorem tz_174_155 : tw_E sc d 174 155 [x0, x1, x2, x3] (.int v :: st) g mi mr Q = tw_E sc d 174 156 [x0, x1, x2, x3] (.long v.toInt64 :: st) g mi mr Q := tw_x_i2l td_174_155
theorem td_174_156 : decode (tw_cd 174) 156 = .ok (.ldc2_w 13, 3) := by decide +kernel
theorem tz_174_156 : tw_E sc d 174 156 [x0, x1, x2, x3] st g mi mr Q = tw_E sc d 174 159 [x0, x1, x2, x3] (.long 4294967295 :: st) g mi mr Q := tw_x_ldl td_174_156 to_174 tl_11_13
theorem td_174_159 : decode (tw_cd 174) 159 = .ok (.land, 1) := by decide +kernel
theorem tz_174_159 : tw_E sc d 174 159 [x0, x1, x2, x3] (.long h :: .long j :: st) g mi mr Q = tw_E sc d 174 160 [x0, x1, x2, x3] (.long (j &&& h) :: st) g mi mr Q := tw_x_land td_174_159
theorem td_174_160 : decode (tw_cd 174) 160 = .ok (.lor, 1) := by decide +kernel
theorem tz_174_160 : tw_E sc d 174 160 [x0, x1, x2, x3] (.long h :: .long j :: st) g mi mr Q = tw_E sc d 174 161 [x0, x1, x2, x3] (.long (j ||| h) :: st) g mi mr Q := tw_x_lor td_174_160
theorem td_174_161 : decode (tw_cd 174) 161 = .ok (.invokevirtual 15, 3) := by decide +kernel
theorem tz_174_161 {a0 : Int64} : tw_E sc (d + 1) 174 161 [x0, x1, x2, x3] ([.long a0, .ref a]) g mi mr Q = (tw_kd g a = 0 ∧ tw_E sc d 1 0 [some (.ref a), some (.long a0), none] [] g mi mr (tw_K sc (d + 1) 174 164 [x0, x1, x2, x3] [] Q)) := tw_x_cv (as := [.long a0]) (r := []) td_174_161 to_174 tc_11_15 to_1 rfl rfl rfl rfl
theorem td_174_164 : decode (tw_cd 174) 164 = .ok (.aload_n 2, 1) := by decide +kernel
theorem tz_174_164 : tw_E sc d 174 164 [x0, x1, some (.ref a), x3] st g mi mr Q = tw_E sc d 174 165 [x0, x1, some (.ref a), x3] (.ref a :: st) g mi mr Q := tw_x_aload_n td_174_164 rfl
theorem tz_174_164n : tw_E sc d 174 164 [x0, x1, some .null, x3] st g mi mr Q = tw_E sc d 174 165 [x0, x1, some .null, x3] (.null :: st) g mi mr Q := tw_x_aload_nN td_174_164 rfl
theorem td_174_165 : decode (tw_cd 174) 165 = .ok (.aload_n 0, 1) := by decide +kernel
theorem tz_174_165 : tw_E sc d 174 165 [some (.retAddr a), x1, x2, x3] st g mi mr Q = tw_E sc d 174 166 [some (.retAddr a), x1, x2, x3] (.retAddr a :: st) g mi mr Q := tw_x_aload_nS td_174_165 rfl
theorem td_174_166 : decode (tw_cd 174) 166 = .ok (.iload_n 3, 1) := by decide +kernel
theorem tz_174_166 : tw_E sc d 174 166 [x0, x1, x2, some (.int v)] st g mi mr Q = tw_E sc d 174 167 [x0, x1, x2, some (.int v)] (.int v :: st) g mi mr Q := tw_x_iload_n td_174_166 rfl
theorem td_174_167 : decode (tw_cd 174) 167 = .ok (.iconst 1, 1) := by decide +kernel
theorem tz_174_167 : tw_E sc d 174 167 [x0, x1, x2, x3] st g mi mr Q = tw_E sc d 174 168 [x0, x1, x2, x3] (.int 1 :: st) g mi mr Q := tw_x_iconst td_174_167 (by decide)
theorem td_174_168 : decode (tw_cd 174) 168 = .ok (.iadd, 1) := by decide +kernel
theorem tz_174_168 : tw_E sc d 174 168 [x0, x1, x2, x3] (.int w :: .int v :: st) g mi mr Q = tw_E sc d 174 169 [x0, x1, x2, x3] (.int (v + w) :: st) g mi mr Q := tw_x_iadd td_174_168
theorem td_174_169 : decode (tw_cd 174) 169 = .ok (.iaload, 1) := by decide +kernel
theorem tz_174_169 : tw_E sc d 174 169 [x0, x1, x2, x3] (.int v :: .retAddr a :: st) g mi mr Q = (vp_in v sc.1 ∧ tw_E sc d 174 170 [x0, x1, x2, x3] (.int (sc.2 v.toNatClampNeg) :: st) g mi mr Q) := tw_x_sald td_174_169
theorem td_174_170 : decode (tw_cd 174) 170 = .ok (.i2l, 1) := by decide +kernel
theorem tz_174_170 : tw_E sc d 174 170 [x0, x1, x2, x3] (.int v :: st) g mi mr Q = tw_E sc d 174 171 [x0, x1, x2, x3] (.long v.toInt64 :: st) g mi mr Q := tw_x_i2l td_174_170
theorem td_174_171 : decode (tw_cd 174) 171 = .ok (.bipush 32, 2) := by decide +kernel
theorem tz_174_171 : tw_E sc d 174 171 [x0, x1, x2, x3] st g mi mr Q = tw_E sc d 174 173 [x0, x1, x2, x3] (.int 32 :: st) g mi mr Q := tw_x_bipush td_174_171 (by decide)
theorem td_174_173 : decode (tw_cd 174) 173 = .ok (.lshl, 1) := by decide +kernel
theorem tz_174_173 : tw_E sc d 174 173 [x0, x1, x2, x3] (.int w :: .long j :: st) g mi mr Q = tw_E sc d 174 174 [x0, x1, x2, x3] (.long (j <<< (w.toInt64 &&& 63)) :: st) g mi mr Q := tw_x_lshl td_174_173
theorem td_174_174 : decode (tw_cd 174) 174 = .ok (.aload_n 0, 1) := by decide +kernel
theorem tz_174_174 : tw_E sc d 174 174 [some (.retAddr a), x1, x2, x3] st g mi mr Q = tw_E sc d 174 175 [some (.retAddr a), x1, x2, x3] (.retAddr a :: st) g mi mr Q := tw_x_aload_nS td_174_174 rfl
theorem td_174_175 : decode (tw_cd 174) 175 = .ok (.iload_n 3, 1) := by decide +kernel
theorem tz_174_175 : tw_E sc d 174 175 [x0, x1, x2, some (.int v)] st g mi mr Q = tw_E sc d 174 176 [x0, x1, x2, some (.int v)] (.int v :: st) g mi mr Q := tw_x_iload_n td_174_175 rfl
theorem td_174_176 : decode (tw_cd 174) 176 = .ok (.iconst 2, 1) := by decide +kernel
theorem tz_174_176 : tw_E sc d 174 176 [x0, x1, x2, x3] st g mi mr Q = tw_E sc d 174 177 [x0, x1, x2, x3] (.int 2 :: st) g mi mr Q := tw_x_iconst td_174_176 (by decide)
theorem td_174_177 : decode (tw_cd 174) 177 = .ok (.iadd, 1) := by decide +kernel
theorem tz_174_177 : tw_E sc d 174 177 [x0, x1, x2, x3] (.int w :: .int v :: st) g mi mr Q = tw_E sc d 174 178 [x0, x1, x2, x3] (.int (v + w) :: st) g mi mr Q := tw_x_iadd td_174_177
theorem td_174_178 : decode (tw_cd 174) 178 = .ok (.iaload, 1) := by decide +kernel
theorem tz_174_178 : tw_E sc d 174 178 [x0, x1, x2, x3] (.int v :: .retAddr a :: st) g mi mr Q = (vp_in v sc.1 ∧ tw_E sc d 174 179 [x0, x1, x2, x3] (.int (sc.2 v.toNatClampNeg) :: st) g mi mr Q) := tw_x_sald td_174_178
theorem td_174_179 : decode (tw_cd 174) 179 = .ok (.i2l, 1) := by decide +kernel
theorem tz_174_179 : tw_E sc d 174 179 [x0, x1, x2, x3] (.int v :: st) g mi mr Q = tw_E sc d 174 180 [x0, x1, x2, x3] (.long v.toInt64 :: st) g mi mr Q := tw_x_i2l td_174_179
theorem td_174_180 : decode (tw_cd 174) 180 = .ok (.ldc2_w 13, 3) := by decide +kernel
theorem tz_174_180 : tw_E sc d 174 180 [x0, x1, x2, x3] st g mi mr Q = tw_E sc d 174 183 [x0, x1, x2, x3] (.long 4294967295 :: st) g mi mr Q := tw_x_ldl td_174_180 to_174 tl_11_13
theorem td_174_183 : decode (tw_cd 174) 183 = .ok (.land, 1) := by decide +kernel
theorem tz_174_183 : tw_E sc d 174 183 [x0, x1, x2, x3] (.long h :: .long j :: st) g mi mr Q = tw_E sc d 174 184 [x0, x1, x2, x3] (.long (j &&& h) :: st) g mi mr Q := tw_x_land td_174_183
theorem td_174_184 : decode (tw_cd 174) 184 = .ok (.lor, 1) := by decide +kernel
theorem tz_174_184 : tw_E sc d 174 184 [x0, x1, x2, x3] (.long h :: .long j :: st) g mi mr Q = tw_E sc d 174 185 [x0, x1, x2, x3] (.long (j ||| h) :: st) g mi mr Q := tw_x_lor td_174_184
theorem td_174_185 : decode (tw_cd 174) 185 = .ok (.invokevirtual 19, 3) := by decide +kernel
theorem tz_174_185 {a0 : Int64} : tw_E sc (d + 1) 174 185 [x0, x1, x2, x3] ([.long a0, .ref a, s1]) g mi mr Q = (tw_kd g a = 10 ∧ tw_E sc d 127 0 [some (.ref a), some (.long a0), none, none, none] [] g mi mr (tw_K sc (d + 1) 174 188 [x0, x1, x2, x3] [s1] Q)) := tw_x_cv (as := [.long a0]) (r := [s1]) td_174_185 to_174 tc_11_19 to_127 rfl rfl rfl rfl
theorem td_174_188 : decode (tw_cd 174) 188 = .ok (.if_icmp .eq 643, 3) := by decide +kernel
theorem tz_174_188 : tw_E sc d 174 188 [x0, x1, x2, x3] (.int w :: .int v :: st) g mi mr Q = if v = w then tw_E sc d 174 831 [x0, x1, x2, x3] st g mi mr Q else tw_E sc d 174 191 [x0, x1, x2, x3] st g mi mr Q := tw_x_ic_eq td_174_188 (by decide)
theorem td_174_191 : decode (tw_cd 174) 191 = .ok (.iconst 0, 1) := by decide +kernel
theorem tz_174_191 : tw_E sc d 174 191 [x0, x1, x2, x3] st g mi mr Q = tw_E sc d 174 192 [x0, x1, x2, x3] (.int 0 :: st) g mi mr Q := tw_x_iconst td_174_191 (by decide)
theorem td_174_192 : decode (tw_cd 174) 192 = .ok (.ireturn, 1) := by decide +kernel
theorem tz_174_192 : tw_E sc d 174 192 [x0, x1, x2, x3] ([.int v]) g mi mr Q = ((v = 0 ∨ v = 1) ∧ Q (some (.int v)) g mi mr) := tw_x_zret td_174_192 tr_174
theorem td_174_193 : decode (tw_cd 174) 193 = .ok (.aload_n 1, 1) := by decide +kernel
theorem tz_174_193 : tw_E sc d 174 193 [x0, some (.ref a), x2, x3] st g mi mr Q = tw_E sc d 174 194 [x0, some (.ref a), x2, x3] (.ref a :: st) g mi mr Q := tw_x_aload_n td_174_193 rfl
theorem tz_174_193n : tw_E sc d 174 193 [x0, some .null, x2, x3] st g mi mr Q = tw_E sc d 174 194 [x0, some .null, x2, x3] (.null :: st) g mi mr Q := tw_x_aload_nN td_174_193 rfl
theorem td_174_194 : decode (tw_cd 174) 194 = .ok (.invokevirtual 20, 3) := by decide +kernel
theorem tz_174_194 : tw_E sc (d + 1) 174 194 [x0, x1, x2, x3] ([.ref a]) g mi mr Q = (tw_kd g a = 0 ∧ tw_E sc d 2 0 [some (.ref a), none] [] g mi mr (tw_K sc (d + 1) 174 197 [x0, x1, x2, x3] [] Q)) := tw_x_cv (as := []) (r := []) td_174_194 to_174 tc_11_20 to_2 rfl rfl rfl rfl
theorem td_174_197 : decode (tw_cd 174) 197 = .ok (.aload_n 2, 1) := by decide +kernel
theorem tz_174_197 : tw_E sc d 174 197 [x0, x1, some (.ref a), x3] st g mi mr Q = tw_E sc d 174 198 [x0, x1, some (.ref a), x3] (.ref a :: st) g mi mr Q := tw_x_aload_n td_174_197 rfl
theorem tz_174_197n : tw_E sc d 174 197 [x0, x1, some .null, x3] st g mi mr Q = tw_E sc d 174 198 [x0, x1, some .null, x3] (.null :: st) g mi mr Q := tw_x_aload_nN td_174_197 rfl
theorem td_174_198 : decode (tw_cd 174) 198 = .ok (.invokevirtual 24, 3) := by decide +kernel
theorem tz_174_198 : tw_E sc (d + 1) 174 198 [x0, x1, x2, x3] ([.ref a, s1]) g mi mr Q = (tw_kd g a = 10 ∧ tw_E sc d 128 0 [some (.ref a), none] [] g mi mr (tw_K sc (d + 1) 174 201 [x0, x1, x2, x3] [s1] Q)) := tw_x_cv (as := []) (r := [s1]) td_174_198 to_174 tc_11_24 to_128 rfl rfl rfl rfl
theorem td_174_201 : decode (tw_cd 174) 201 = .ok (.if_icmp .eq 630, 3) := by decide +kernel
theorem tz_174_201 : tw_E sc d 174 201 [x0, x1, x2, x3] (.int w :: .int v :: st) g mi mr Q = if v = w then tw_E sc d 174 831 [x0, x1, x2, x3] st g mi mr Q else tw_E sc d 174 204 [x0, x1, x2, x3] st g mi mr Q := tw_x_ic_eq td_174_201 (by decide)
theorem td_174_204 : decode (tw_cd 174) 204 = .ok (.iconst 0, 1) := by decide +kernel
theorem tz_174_204 : tw_E sc d 174 204 [x0, x1, x2, x3] st g mi mr Q = tw_E sc d 174 205 [x0, x1, x2, x3] (.int 0 :: st) g mi mr Q := tw_x_iconst td_174_204 (by decide)
theorem td_174_205 : decode (tw_cd 174) 205 = .ok (.ireturn, 1) := by decide +kernel
theorem tz_174_205 : tw_E sc d 174 205 [x0, x1, x2, x3] ([.int v]) g mi mr Q = ((v = 0 ∨ v = 1) ∧ Q (some (.int v)) g mi mr) := tw_x_zret td_174_205 tr_174
theorem td_174_206 : decode (tw_cd 174) 206 = .ok (.aload_n 1, 1) := by decide +kernel
theorem tz_174_206 : tw_E sc d 174 206 [x0, some (.ref a), x2, x3] st g mi mr Q = tw_E sc d 174 207 [x0, some (.ref a), x2, x3] (.ref a :: st) g mi mr Q := tw_x_aload_n td_174_206 rfl
theorem tz_174_206n : tw_E sc d 174 206 [x0, some .null, x2, x3] st g mi mr Q = tw_E sc d 174 207 [x0, some .null, x2, x3] (.null :: st) g mi mr Q := tw_x_aload_nN td_174_206 rfl
theorem td_174_207 : decode (tw_cd 174) 207 = .ok (.invokevirtual 25, 3) := by decide +kernel
theorem tz_174_207 : tw_E sc (d + 1) 174 207 [x0, x1, x2, x3] ([.ref a]) g mi mr Q = (tw_kd g a = 0 ∧ tw_E sc d 3 0 [some (.ref a), none] [] g mi mr (tw_K sc (d + 1) 174 210 [x0, x1, x2, x3] [] Q)) := tw_x_cv (as := []) (r := []) td_174_207 to_174 tc_11_25 to_3 rfl rfl rfl rfl
theorem td_174_210 : decode (tw_cd 174) 210 = .ok (.aload_n 2, 1) := by decide +kernel
theorem tz_174_210 : tw_E sc d 174 210 [x0, x1, some (.ref a), x3] st g mi mr Q = tw_E sc d 174 211 [x0, x1, some (.ref a), x3] (.ref a :: st) g mi mr Q := tw_x_aload_n td_174_210 rfl
theorem tz_174_210n : tw_E sc d 174 210 [x0, x1, some .null, x3] st g mi mr Q = tw_E sc d 174 211 [x0, x1, some .null, x3] (.null :: st) g mi mr Q := tw_x_aload_nN td_174_210 rfl
theorem td_174_211 : decode (tw_cd 174) 211 = .ok (.invokevirtual 28, 3) := by decide +kernel
theorem tz_174_211 : tw_E sc (d + 1) 174 211 [x0, x1, x2, x3] ([.ref a, s1]) g mi mr Q = (tw_kd g a = 10 ∧ tw_E sc d 141 0 [some (.ref a), none] [] g mi mr (tw_K sc (d + 1) 174 214 [x0, x1, x2, x3] [s1] Q)) := tw_x_cv (as := []) (r := [s1]) td_174_211 to_174 tc_11_28 to_141 rfl rfl rfl rfl
theorem td_174_214 : decode (tw_cd 174) 214 = .ok (.if_icmp .eq 617, 3) := by decide +kernel
theorem tz_174_214 : tw_E sc d 174 214 [x0, x1, x2, x3] (.int w :: .int v :: st) g mi mr Q = if v = w then tw_E sc d 174 831 [x0, x1, x2, x3] st g mi mr Q else tw_E sc d 174 217 [x0, x1, x2, x3] st g mi mr Q := tw_x_ic_eq td_174_214 (by decide)
theorem td_174_217 : decode (tw_cd 174) 217 = .ok (.iconst 0, 1) := by decide +kernel
theorem tz_174_217 : tw_E sc d 174 217 [x0, x1, x2, x3] st g mi mr Q = tw_E sc d 174 218 [x0, x1, x2, x3] (.int 0 :: st) g mi mr Q := tw_x_iconst td_174_217 (by decide)
theorem td_174_218 : decode (tw_cd 174) 218 = .ok (.ireturn, 1) := by decide +kernel
theorem tz_174_218 : tw_E sc d 174 218 [x0, x1, x2, x3] ([.int v]) g mi mr Q = ((v = 0 ∨ v = 1) ∧ Q (some (.int v)) g mi mr) := tw_x_zret td_174_218 tr_174
theorem td_174_219 : decode (tw_cd 174) 219 = .ok (.aload_n 1, 1) := by decide +kernel
theorem tz_174_219 : tw_E sc d 174 219 [x0, some (.ref a), x2, x3] st g mi mr Q = tw_E sc d 174 220 [x0, some (.ref a), x2, x3] (.ref a :: st) g mi mr Q := tw_x_aload_n td_174_219 rfl
theorem tz_174_219n : tw_E sc d 174 219 [x0, some .null, x2, x3] st g mi mr Q = tw_E sc d 174 220 [x0, some .null, x2, x3] (.null :: st) g mi mr Q := tw_x_aload_nN td_174_219 rfl
theorem td_174_220 : decode (tw_cd 174) 220 = .ok (.invokevirtual 29, 3) := by decide +kernel
theorem tz_174_220 : tw_E sc (d + 1) 174 220 [x0, x1, x2, x3] ([.ref a]) g mi mr Q = (tw_kd g a = 0 ∧ tw_E sc d 4 0 [some (.ref a)] [] g mi mr (tw_K sc (d + 1) 174 223 [x0, x1, x2, x3] [] Q)) := tw_x_cv (as := []) (r := []) td_174_220 to_174 tc_11_29 to_4 rfl rfl rfl rfl
theorem td_174_223 : decode (tw_cd 174) 223 = .ok (.aload_n 2, 1) := by decide +kernel
theorem tz_174_223 : tw_E sc d 174 223 [x0, x1, some (.ref a), x3] st g mi mr Q = tw_E sc d 174 224 [x0, x1, some (.ref a), x3] (.ref a :: st) g mi mr Q := tw_x_aload_n td_174_223 rfl
theorem tz_174_223n : tw_E sc d 174 223 [x0, x1, some .null, x3] st g mi mr Q = tw_E sc d 174 224 [x0, x1, some .null, x3] (.null :: st) g mi mr Q := tw_x_aload_nN td_174_223 rfl
theorem td_174_224 : decode (tw_cd 174) 224 = .ok (.invokevirtual 32, 3) := by decide +kernel
theorem tz_174_224 : tw_E sc (d + 1) 174 224 [x0, x1, x2, x3] ([.ref a, s1]) g mi mr Q = (tw_kd g a = 10 ∧ tw_E sc d 143 0 [some (.ref a)] [] g mi mr (tw_K sc (d + 1) 174 227 [x0, x1, x2, x3] [s1] Q)) := tw_x_cv (as := []) (r := [s1]) td_174_224 to_174 tc_11_32 to_143 rfl rfl rfl rfl
theorem td_174_227 : decode (tw_cd 174) 227 = .ok (.if_icmp .eq 604, 3) := by decide +kernel
theorem tz_174_227 : tw_E sc d 174 227 [x0, x1, x2, x3] (.int w :: .int v :: st) g mi mr Q = if v = w then tw_E sc d 174 831 [x0, x1, x2, x3] st g mi mr Q else tw_E sc d 174 230 [x0, x1, x2, x3] st g mi mr Q := tw_x_ic_eq td_174_227 (by decide)
theorem td_174_230 : decode (tw_cd 174) 230 = .ok (.iconst 0, 1) := by decide +kernel
theorem tz_174_230 : tw_E sc d 174 230 [x0, x1, x2, x3] st g mi mr Q = tw_E sc d 174 231 [x0, x1, x2, x3] (.int 0 :: st) g mi mr Q := tw_x_iconst td_174_230 (by decide)
theorem td_174_231 : decode (tw_cd 174) 231 = .ok (.ireturn, 1) := by decide +kernel
theorem tz_174_231 : tw_E sc d 174 231 [x0, x1, x2, x3] ([.int v]) g mi mr Q = ((v = 0 ∨ v = 1) ∧ Q (some (.int v)) g mi mr) := tw_x_zret td_174_231 tr_174
theorem td_174_232 : decode (tw_cd 174) 232 = .ok (.aload_n 1, 1) := by decide +kernel
theorem tz_174_232 : tw_E sc d 174 232 [x0, some (.ref a), x2, x3] st g mi mr Q = tw_E sc d 174 233 [x0, some (.ref a), x2, x3] (.ref a :: st) g mi mr Q := tw_x_aload_n td_174_232 rfl
theorem tz_174_232n : tw_E sc d 174 232 [x0, some .null, x2, x3] st g mi mr Q = tw_E sc d 174 233 [x0, some .null, x2, x3] (.null :: st) g mi mr Q := tw_x_aload_nN td_174_232 rfl
theorem td_174_233 : decode (tw_cd 174) 233 = .ok (.aload_n 0, 1) := by decide +kernel
theorem tz_174_233 : tw_E sc d 174 233 [some (.retAddr a), x1, x2, x3] st g mi mr Q = tw_E sc d 174 234 [some (.retAddr a), x1, x2, x3] (.retAddr a :: st) g mi mr Q := tw_x_aload_nS td_174_233 rfl
theorem td_174_234 : decode (tw_cd 174) 234 = .ok (.iload_n 3, 1) := by decide +kernel
theorem tz_174_234 : tw_E sc d 174 234 [x0, x1, x2, some (.int v)] st g mi mr Q = tw_E sc d 174 235 [x0, x1, x2, some (.int v)] (.int v :: st) g mi mr Q := tw_x_iload_n td_174_234 rfl
theorem td_174_235 : decode (tw_cd 174) 235 = .ok (.iconst 1, 1) := by decide +kernel
theorem tz_174_235 : tw_E sc d 174 235 [x0, x1, x2, x3] st g mi mr Q = tw_E sc d 174 236 [x0, x1, x2, x3] (.int 1 :: st) g mi mr Q := tw_x_iconst td_174_235 (by decide)
theorem td_174_236 : decode (tw_cd 174) 236 = .ok (.iadd, 1) := by decide +kernel
theorem tz_174_236 : tw_E sc d 174 236 [x0, x1, x2, x3] (.int w :: .int v :: st) g mi mr Q = tw_E sc d 174 237 [x0, x1, x2, x3] (.int (v + w) :: st) g mi mr Q := tw_x_iadd td_174_236
theorem td_174_237 : decode (tw_cd 174) 237 = .ok (.iaload, 1) := by decide +kernel
theorem tz_174_237 : tw_E sc d 174 237 [x0, x1, x2, x3] (.int v :: .retAddr a :: st) g mi mr Q = (vp_in v sc.1 ∧ tw_E sc d 174 238 [x0, x1, x2, x3] (.int (sc.2 v.toNatClampNeg) :: st) g mi mr Q) := tw_x_sald td_174_237
theorem td_174_238 : decode (tw_cd 174) 238 = .ok (.aload_n 0, 1) := by decide +kernel
theorem tz_174_238 : tw_E sc d 174 238 [some (.retAddr a), x1, x2, x3] st g mi mr Q = tw_E sc d 174 239 [some (.retAddr a), x1, x2, x3] (.retAddr a :: st) g mi mr Q := tw_x_aload_nS td_174_238 rfl
theorem td_174_239 : decode (tw_cd 174) 239 = .ok (.iload_n 3, 1) := by decide +kernel
theorem tz_174_239 : tw_E sc d 174 239 [x0, x1, x2, some (.int v)] st g mi mr Q = tw_E sc d 174 240 [x0, x1, x2, some (.int v)] (.int v :: st) g mi mr Q := tw_x_iload_n td_174_239 rfl
theorem td_174_240 : decode (tw_cd 174) 240 = .ok (.iconst 2, 1) := by decide +kernel
theorem tz_174_240 : tw_E sc d 174 240 [x0, x1, x2, x3] st g mi mr Q = tw_E sc d 174 241 [x0, x1, x2, x3] (.int 2 :: st) g mi mr Q := tw_x_iconst td_174_240 (by decide)
theorem td_174_241 : decode (tw_cd 174) 241 = .ok (.iadd, 1) := by decide +kernel
theorem tz_174_241 : tw_E sc d 174 241 [x0, x1, x2, x3] (.int w :: .int v :: st) g mi mr Q = tw_E sc d 174 242 [x0, x1, x2, x3] (.int (v + w) :: st) g mi mr Q := tw_x_iadd td_174_241
theorem td_174_242 : decode (tw_cd 174) 242 = .ok (.iaload, 1) := by decide +kernel
theorem tz_174_242 : tw_E sc d 174 242 [x0, x1, x2, x3] (.int v :: .retAddr a :: st) g mi mr Q = (vp_in v sc.1 ∧ tw_E sc d 174 243 [x0, x1, x2, x3] (.int (sc.2 v.toNatClampNeg) :: st) g mi mr Q) := tw_x_sald td_174_242
theorem td_174_243 : decode (tw_cd 174) 243 = .ok (.aload_n 0, 1) := by decide +kernel
theorem tz_174_243 : tw_E sc d 174 243 [some (.retAddr a), x1, x2, x3] st g mi mr Q = tw_E sc d 174 244 [some (.retAddr a), x1, x2, x3] (.retAddr a :: st) g mi mr Q := tw_x_aload_nS td_174_243 rfl
theorem td_174_244 : decode (tw_cd 174) 244 = .ok (.iload_n 3, 1) := by decide +kernel
theorem tz_174_244 : tw_E sc d 174 244 [x0, x1, x2, some (.int v)] st g mi mr Q = tw_E sc d 174 245 [x0, x1, x2, some (.int v)] (.int v :: st) g mi mr Q := tw_x_iload_n td_174_244 rfl
theorem td_174_245 : decode (tw_cd 174) 245 = .ok (.iconst 3, 1) := by decide +kernel
theorem tz_174_245 : tw_E sc d 174 245 [x0, x1, x2, x3] st g mi mr Q = tw_E sc d 174 246 [x0, x1, x2, x3] (.int 3 :: st) g mi mr Q := tw_x_iconst td_174_245 (by decide)
theorem td_174_246 : decode (tw_cd 174) 246 = .ok (.iadd, 1) := by decide +kernel
theorem tz_174_246 : tw_E sc d 174 246 [x0, x1, x2, x3] (.int w :: .int v :: st) g mi mr Q = tw_E sc d 174 247 [x0, x1, x2, x3] (.int (v + w) :: st) g mi mr Q := tw_x_iadd td_174_246
theorem td_174_247 : decode (tw_cd 174) 247 = .ok (.iaload, 1) := by decide +kernel
theorem tz_174_247 : tw_E sc d 174 247 [x0, x1, x2, x3] (.int v :: .retAddr a :: st) g mi mr Q = (vp_in v sc.1 ∧ tw_E sc d 174 248 [x0, x1, x2, x3] (.int (sc.2 v.toNatClampNeg) :: st) g mi mr Q) := tw_x_sald td_174_247
theorem td_174_248 : decode (tw_cd 174) 248 = .ok (.invokevirtual 33, 3) := by decide +kernel
theorem tz_174_248 {a0 : Int32} {a1 : Int32} {a2 : Int32} : tw_E sc (d + 1) 174 248 [x0, x1, x2, x3] ([.int a2, .int a1, .int a0, .ref a]) g mi mr Q = (tw_kd g a = 0 ∧ tw_E sc d 5 0 [some (.ref a), some (.int a0), some (.int a1), some (.int a2), none] [] g mi mr (tw_K sc (d + 1) 174 251 [x0, x1, x2, x3] [] Q)) := tw_x_cv (as := [.int a0, .int a1, .int a2]) (r := []) td_174_248 to_174 tc_11_33 to_5 rfl rfl rfl rfl
theorem td_174_251 : decode (tw_cd 174) 251 = .ok (.aload_n 2, 1) := by decide +kernel
theorem tz_174_251 : tw_E sc d 174 251 [x0, x1, some (.ref a), x3] st g mi mr Q = tw_E sc d 174 252 [x0, x1, some (.ref a), x3] (.ref a :: st) g mi mr Q := tw_x_aload_n td_174_251 rfl
theorem tz_174_251n : tw_E sc d 174 251 [x0, x1, some .null, x3] st g mi mr Q = tw_E sc d 174 252 [x0, x1, some .null, x3] (.null :: st) g mi mr Q := tw_x_aload_nN td_174_251 rfl
theorem td_174_252 : decode (tw_cd 174) 252 = .ok (.aload_n 0, 1) := by decide +kernel
theorem tz_174_252 : tw_E sc d 174 252 [some (.retAddr a), x1, x2, x3] st g mi mr Q = tw_E sc d 174 253 [some (.retAddr a), x1, x2, x3] (.retAddr a :: st) g mi mr Q := tw_x_aload_nS td_174_252 rfl
theorem td_174_253 : decode (tw_cd 174) 253 = .ok (.iload_n 3, 1) := by decide +kernel
theorem tz_174_253 : tw_E sc d 174 253 [x0, x1, x2, some (.int v)] st g mi mr Q = tw_E sc d 174 254 [x0, x1, x2, some (.int v)] (.int v :: st) g mi mr Q := tw_x_iload_n td_174_253 rfl
theorem td_174_254 : decode (tw_cd 174) 254 = .ok (.iconst 1, 1) := by decide +kernel
theorem tz_174_254 : tw_E sc d 174 254 [x0, x1, x2, x3] st g mi mr Q = tw_E sc d 174 255 [x0, x1, x2, x3] (.int 1 :: st) g mi mr Q := tw_x_iconst td_174_254 (by decide)
theorem td_174_255 : decode (tw_cd 174) 255 = .ok (.iadd, 1) := by decide +kernel
theorem tz_174_255 : tw_E sc d 174 255 [x0, x1, x2, x3] (.int w :: .int v :: st) g mi mr Q = tw_E sc d 174 256 [x0, x1, x2, x3] (.int (v + w) :: st) g mi mr Q := tw_x_iadd td_174_255
theorem td_174_256 : decode (tw_cd 174) 256 = .ok (.iaload, 1) := by decide +kernel
theorem tz_174_256 : tw_E sc d 174 256 [x0, x1, x2, x3] (.int v :: .retAddr a :: st) g mi mr Q = (vp_in v sc.1 ∧ tw_E sc d 174 257 [x0, x1, x2, x3] (.int (sc.2 v.toNatClampNeg) :: st) g mi mr Q) := tw_x_sald td_174_256
theorem td_174_257 : decode (tw_cd 174) 257 = .ok (.aload_n 0, 1) := by decide +kernel
theorem tz_174_257 : tw_E sc d 174 257 [some (.retAddr a), x1, x2, x3] st g mi mr Q = tw_E sc d 174 258 [some (.retAddr a), x1, x2, x3] (.retAddr a :: st) g mi mr Q := tw_x_aload_nS td_174_257 rfl
theorem td_174_258 : decode (tw_cd 174) 258 = .ok (.iload_n 3, 1) := by decide +kernel
theorem tz_174_258 : tw_E sc d 174 258 [x0, x1, x2, some (.int v)] st g mi mr Q = tw_E sc d 174 259 [x0, x1, x2, some (.int v)] (.int v :: st) g mi mr Q := tw_x_iload_n td_174_258 rfl
theorem td_174_259 : decode (tw_cd 174) 259 = .ok (.iconst 2, 1) := by decide +kernel
theorem tz_174_259 : tw_E sc d 174 259 [x0, x1, x2, x3] st g mi mr Q = tw_E sc d 174 260 [x0, x1, x2, x3] (.int 2 :: st) g mi mr Q := tw_x_iconst td_174_259 (by decide)
theorem td_174_260 : decode (tw_cd 174) 260 = .ok (.iadd, 1) := by decide +kernel
theorem tz_174_260 : tw_E sc d 174 260 [x0, x1, x2, x3] (.int w :: .int v :: st) g mi mr Q = tw_E sc d 174 261 [x0, x1, x2, x3] (.int (v + w) :: st) g mi mr Q := tw_x_iadd td_174_260
theorem td_174_261 : decode (tw_cd 174) 261 = .ok (.iaload, 1) := by decide +kernel
theorem tz_174_261 : tw_E sc d 174 261 [x0, x1, x2, x3] (.int v :: .retAddr a :: st) g mi mr Q = (vp_in v sc.1 ∧ tw_E sc d 174 262 [x0, x1, x2, x3] (.int (sc.2 v.toNatClampNeg) :: st) g mi mr Q) := tw_x_sald td_174_261
theorem td_174_262 : decode (tw_cd 174) 262 = .ok (.aload_n 0, 1) := by decide +kernel
theorem tz_174_262 : tw_E sc d 174 262 [some (.retAddr a), x1, x2, x3] st g mi mr Q = tw_E sc d 174 263 [some (.retAddr a), x1, x2, x3] (.retAddr a :: st) g mi mr Q := tw_x_aload_nS td_174_262 rfl
theorem td_174_263 : decode (tw_cd 174) 263 = .ok (.iload_n 3, 1) := by decide +kernel
theorem tz_174_263 : tw_E sc d 174 263 [x0, x1, x2, some (.int v)] st g mi mr Q = tw_E sc d 174 264 [x0, x1, x2, some (.int v)] (.int v :: st) g mi mr Q := tw_x_iload_n td_174_263 rfl
theorem td_174_264 : decode (tw_cd 174) 264 = .ok (.iconst 3, 1) := by decide +kernel
theorem tz_174_264 : tw_E sc d 174 264 [x0, x1, x2, x3] st g mi mr Q = tw_E sc d 174 265 [x0, x1, x2, x3] (.int 3 :: st) g mi mr Q := tw_x_iconst td_174_264 (by decide)
theorem td_174_265 : decode (tw_cd 174) 265 = .ok (.iadd, 1) := by decide +kernel
theorem tz_174_265 : tw_E sc d 174 265 [x0, x1, x2, x3] (.int w :: .int v :: st) g mi mr Q = tw_E sc d 174 266 [x0, x1, x2, x3] (.int (v + w) :: st) g mi mr Q := tw_x_iadd td_174_265
theorem td_174_266 : decode (tw_cd 174) 266 = .ok (.iaload, 1) := by decide +kernel
theorem tz_174_266 : tw_E sc d 174 266 [x0, x1, x2, x3] (.int v :: .retAddr a :: st) g mi mr Q = (vp_in v sc.1 ∧ tw_E sc d 174 267 [x0, x1, x2, x3] (.int (sc.2 v.toNatClampNeg) :: st) g mi mr Q) := tw_x_sald td_174_266
theorem td_174_267 : decode (tw_cd 174) 267 = .ok (.invokevirtual 37, 3) := by decide +kernel
theorem tz_174_267 {a0 : Int32} {a1 : Int32} {a2 : Int32} : tw_E sc (d + 1) 174 267 [x0, x1, x2, x3] ([.int a2, .int a1, .int a0, .ref a, s1]) g mi mr Q = (tw_kd g a = 10 ∧ tw_E sc d 144 0 [some (.ref a), some (.int a0), some (.int a1), some (.int a2), none] [] g mi mr (tw_K sc (d + 1) 174 270 [x0, x1, x2, x3] [s1] Q)) := tw_x_cv (as := [.int a0, .int a1, .int a2]) (r := [s1]) td_174_267 to_174 tc_11_37 to_144 rfl rfl rfl rfl
theorem td_174_270 : decode (tw_cd 174) 270 = .ok (.if_icmp .eq 561, 3) := by decide +kernel
theorem tz_174_270 : tw_E sc d 174 270 [x0, x1, x2, x3] (.int w :: .int v :: st) g mi mr Q = if v = w then tw_E sc d 174 831 [x0, x1, x2, x3] st g mi mr Q else tw_E sc d 174 273 [x0, x1, x2, x3] st g mi mr Q := tw_x_ic_eq td_174_270 (by decide)
theorem td_174_273 : decode (tw_cd 174) 273 = .ok (.iconst 0, 1) := by decide +kernel
theorem tz_174_273 : tw_E sc d 174 273 [x0, x1, x2, x3] st g mi mr Q = tw_E sc d 174 274 [x0, x1, x2, x3] (.int 0 :: st) g mi mr Q := tw_x_iconst td_174_273 (by decide)
theorem td_174_274 : decode (tw_cd 174) 274 = .ok (.ireturn, 1) := by decide +kernel
theorem tz_174_274 : tw_E sc d 174 274 [x0, x1, x2, x3] ([.int v]) g mi mr Q = ((v = 0 ∨ v = 1) ∧ Q (some (.int v)) g mi mr) := tw_x_zret td_174_274 tr_174
theorem td_174_275 : decode (tw_cd 174) 275 = .ok (.aload_n 1, 1) := by decide +kernel
theorem tz_174_275 : tw_E sc d 174 275 [x0, some (.ref a), x2, x3] st g mi mr Q = tw_E sc d 174 276 [x0, some (.ref a), x2, x3] (.ref a :: st) g mi mr Q := tw_x_aload_n td_174_275 rfl
theorem tz_174_275n : tw_E sc d 174 275 [x0, some .null, x2, x3] st g mi mr Q = tw_E sc d 174 276 [x0, some .null, x2, x3] (.null :: st) g mi mr Q := tw_x_aload_nN td_174_275 rfl
theorem td_174_276 : decode (tw_cd 174) 276 = .ok (.invokevirtual 38, 3) := by decide +kernel
theorem tz_174_276 : tw_E sc (d + 1) 174 276 [x0, x1, x2, x3] ([.ref a]) g mi mr Q = (tw_kd g a = 0 ∧ tw_E sc d 6 0 [some (.ref a), none] [] g mi mr (tw_K sc (d + 1) 174 279 [x0, x1, x2, x3] [] Q)) := tw_x_cv (as := []) (r := []) td_174_276 to_174 tc_11_38 to_6 rfl rfl rfl rfl
theorem td_174_279 : decode (tw_cd 174) 279 = .ok (.aload_n 2, 1) := by decide +kernel
theorem tz_174_279 : tw_E sc d 174 279 [x0, x1, some (.ref a), x3] st g mi mr Q = tw_E sc d 174 280 [x0, x1, some (.ref a), x3] (.ref a :: st) g mi mr Q := tw_x_aload_n td_174_279 rfl
theorem tz_174_279n : tw_E sc d 174 279 [x0, x1, some .null, x3] st g mi mr Q = tw_E sc d 174 280 [x0, x1, some .null, x3] (.null :: st) g mi mr Q := tw_x_aload_nN td_174_279 rfl
theorem td_174_280 : decode (tw_cd 174) 280 = .ok (.invokevirtual 41, 3) := by decide +kernel
theorem tz_174_280 : tw_E sc (d + 1) 174 280 [x0, x1, x2, x3] ([.ref a, s1]) g mi mr Q = (tw_kd g a = 10 ∧ tw_E sc d 145 0 [some (.ref a), none] [] g mi mr (tw_K sc (d + 1) 174 283 [x0, x1, x2, x3] [s1] Q)) := tw_x_cv (as := []) (r := [s1]) td_174_280 to_174 tc_11_41 to_145 rfl rfl rfl rfl
theorem td_174_283 : decode (tw_cd 174) 283 = .ok (.if_icmp .eq 548, 3) := by decide +kernel
theorem tz_174_283 : tw_E sc d 174 283 [x0, x1, x2, x3] (.int w :: .int v :: st) g mi mr Q = if v = w then tw_E sc d 174 831 [x0, x1, x2, x3] st g mi mr Q else tw_E sc d 174 286 [x0, x1, x2, x3] st g mi mr Q := tw_x_ic_eq td_174_283 (by decide)
theorem td_174_286 : decode (tw_cd 174) 286 = .ok (.iconst 0, 1) := by decide +kernel
theorem tz_174_286 : tw_E sc d 174 286 [x0, x1, x2, x3] st g mi mr Q = tw_E sc d 174 287 [x0, x1, x2, x3] (.int 0 :: st) g mi mr Q := tw_x_iconst td_174_286 (by decide)
theorem td_174_287 : decode (tw_cd 174) 287 = .ok (.ireturn, 1) := by decide +kernel
theorem tz_174_287 : tw_E sc d 174 287 [x0, x1, x2, x3] ([.int v]) g mi mr Q = ((v = 0 ∨ v = 1) ∧ Q (some (.int v)) g mi mr) := tw_x_zret td_174_287 tr_174
theorem td_174_288 : decode (tw_cd 174) 288 = .ok (.aload_n 1, 1) := by decide +kernel
theorem tz_174_288 : tw_E sc d 174 288 [x0, some (.ref a), x2, x3] st g mi mr Q = tw_E sc d 174 289 [x0, some (.ref a), x2, x3] (.ref a :: st) g mi mr Q := tw_x_aload_n td_174_288 rfl
theorem tz_174_288n : tw_E sc d 174 288 [x0, some .null, x2, x3] st g mi mr Q = tw_E sc d 174 289 [x0, some .null, x2, x3] (.null :: st) g mi mr Q := tw_x_aload_nN td_174_288 rfl
theorem td_174_289 : decode (tw_cd 174) 289 = .ok (.aload_n 0, 1) := by decide +kernel
theorem tz_174_289 : tw_E sc d 174 289 [some (.retAddr a), x1, x2, x3] st g mi mr Q = tw_E sc d 174 290 [some (.retAddr a), x1, x2, x3] (.retAddr a :: st) g mi mr Q := tw_x_aload_nS td_174_289 rfl
theorem td_174_290 : decode (tw_cd 174) 290 = .ok (.iload_n 3, 1) := by decide +kernel
theorem tz_174_290 : tw_E sc d 174 290 [x0, x1, x2, some (.int v)] st g mi mr Q = tw_E sc d 174 291 [x0, x1, x2, some (.int v)] (.int v :: st) g mi mr Q := tw_x_iload_n td_174_290 rfl
theorem td_174_291 : decode (tw_cd 174) 291 = .ok (.iconst 1, 1) := by decide +kernel
theorem tz_174_291 : tw_E sc d 174 291 [x0, x1, x2, x3] st g mi mr Q = tw_E sc d 174 292 [x0, x1, x2, x3] (.int 1 :: st) g mi mr Q := tw_x_iconst td_174_291 (by decide)
theorem td_174_292 : decode (tw_cd 174) 292 = .ok (.iadd, 1) := by decide +kernel
theorem tz_174_292 : tw_E sc d 174 292 [x0, x1, x2, x3] (.int w :: .int v :: st) g mi mr Q = tw_E sc d 174 293 [x0, x1, x2, x3] (.int (v + w) :: st) g mi mr Q := tw_x_iadd td_174_292
theorem td_174_293 : decode (tw_cd 174) 293 = .ok (.iaload, 1) := by decide +kernel
theorem tz_174_293 : tw_E sc d 174 293 [x0, x1, x2, x3] (.int v :: .retAddr a :: st) g mi mr Q = (vp_in v sc.1 ∧ tw_E sc d 174 294 [x0, x1, x2, x3] (.int (sc.2 v.toNatClampNeg) :: st) g mi mr Q) := tw_x_sald td_174_293
theorem td_174_294 : decode (tw_cd 174) 294 = .ok (.aload_n 0, 1) := by decide +kernel
theorem tz_174_294 : tw_E sc d 174 294 [some (.retAddr a), x1, x2, x3] st g mi mr Q = tw_E sc d 174 295 [some (.retAddr a), x1, x2, x3] (.retAddr a :: st) g mi mr Q := tw_x_aload_nS td_174_294 rfl
theorem td_174_295 : decode (tw_cd 174) 295 = .ok (.iload_n 3, 1) := by decide +kernel
theorem tz_174_295 : tw_E sc d 174 295 [x0, x1, x2, some (.int v)] st g mi mr Q = tw_E sc d 174 296 [x0, x1, x2, some (.int v)] (.int v :: st) g mi mr Q := tw_x_iload_n td_174_295 rfl
theorem td_174_296 : decode (tw_cd 174) 296 = .ok (.iconst 2, 1) := by decide +kernel
theorem tz_174_296 : tw_E sc d 174 296 [x0, x1, x2, x3] st g mi mr Q = tw_E sc d 174 297 [x0, x1, x2, x3] (.int 2 :: st) g mi mr Q := tw_x_iconst td_174_296 (by decide)
theorem td_174_297 : decode (tw_cd 174) 297 = .ok (.iadd, 1) := by decide +kernel
theorem tz_174_297 : tw_E sc d 174 297 [x0, x1, x2, x3] (.int w :: .int v :: st) g mi mr Q = tw_E sc d 174 298 [x0, x1, x2, x3] (.int (v + w) :: st) g mi mr Q := tw_x_iadd td_174_297
theorem td_174_298 : decode (tw_cd 174) 298 = .ok (.iaload, 1) := by decide +kernel
theorem tz_174_298 : tw_E sc d 174 298 [x0, x1, x2, x3] (.int v :: .retAddr a :: st) g mi mr Q = (vp_in v sc.1 ∧ tw_E sc d 174 299 [x0, x1, x2, x3] (.int (sc.2 v.toNatClampNeg) :: st) g mi mr Q) := tw_x_sald td_174_298
theorem td_174_299 : decode (tw_cd 174) 299 = .ok (.invokevirtual 42, 3) := by decide +kernel
theorem tz_174_299 {a0 : Int32} {a1 : Int32} : tw_E sc (d + 1) 174 299 [x0, x1, x2, x3] ([.int a1, .int a0, .ref a]) g mi mr Q = (tw_kd g a = 0 ∧ tw_E sc d 7 0 [some (.ref a), some (.int a0), some (.int a1), none] [] g mi mr (tw_K sc (d + 1) 174 302 [x0, x1, x2, x3] [] Q)) := tw_x_cv (as := [.int a0, .int a1]) (r := []) td_174_299 to_174 tc_11_42 to_7 rfl rfl rfl rfl
theorem td_174_302 : decode (tw_cd 174) 302 = .ok (.aload_n 2, 1) := by decide +kernel
theorem tz_174_302 : tw_E sc d 174 302 [x0, x1, some (.ref a), x3] st g mi mr Q = tw_E sc d 174 303 [x0, x1, some (.ref a), x3] (.ref a :: st) g mi mr Q := tw_x_aload_n td_174_302 rfl
theorem tz_174_302n : tw_E sc d 174 302 [x0, x1, some .null, x3] st g mi mr Q = tw_E sc d 174 303 [x0, x1, some .null, x3] (.null :: st) g mi mr Q := tw_x_aload_nN td_174_302 rfl
theorem td_174_303 : decode (tw_cd 174) 303 = .ok (.aload_n 0, 1) := by decide +kernel
theorem tz_174_303 : tw_E sc d 174 303 [some (.retAddr a), x1, x2, x3] st g mi mr Q = tw_E sc d 174 304 [some (.retAddr a), x1, x2, x3] (.retAddr a :: st) g mi mr Q := tw_x_aload_nS td_174_303 rfl
theorem td_174_304 : decode (tw_cd 174) 304 = .ok (.iload_n 3, 1) := by decide +kernel
theorem tz_174_304 : tw_E sc d 174 304 [x0, x1, x2, some (.int v)] st g mi mr Q = tw_E sc d 174 305 [x0, x1, x2, some (.int v)] (.int v :: st) g mi mr Q := tw_x_iload_n td_174_304 rfl
theorem td_174_305 : decode (tw_cd 174) 305 = .ok (.iconst 1, 1) := by decide +kernel
theorem tz_174_305 : tw_E sc d 174 305 [x0, x1, x2, x3] st g mi mr Q = tw_E sc d 174 306 [x0, x1, x2, x3] (.int 1 :: st) g mi mr Q := tw_x_iconst td_174_305 (by decide)
theorem td_174_306 : decode (tw_cd 174) 306 = .ok (.iadd, 1) := by decide +kernel
theorem tz_174_306 : tw_E sc d 174 306 [x0, x1, x2, x3] (.int w :: .int v :: st) g mi mr Q = tw_E sc d 174 307 [x0, x1, x2, x3] (.int (v + w) :: st) g mi mr Q := tw_x_iadd td_174_306
theorem td_174_307 : decode (tw_cd 174) 307 = .ok (.iaload, 1) := by decide +kernel
theorem tz_174_307 : tw_E sc d 174 307 [x0, x1, x2, x3] (.int v :: .retAddr a :: st) g mi mr Q = (vp_in v sc.1 ∧ tw_E sc d 174 308 [x0, x1, x2, x3] (.int (sc.2 v.toNatClampNeg) :: st) g mi mr Q) := tw_x_sald td_174_307
theorem td_174_308 : decode (tw_cd 174) 308 = .ok (.aload_n 0, 1) := by decide +kernel
theorem tz_174_308 : tw_E sc d 174 308 [some (.retAddr a), x1, x2, x3] st g mi mr Q = tw_E sc d 174 309 [some (.retAddr a), x1, x2, x3] (.retAddr a :: st) g mi mr Q := tw_x_aload_nS td_174_308 rfl
theorem td_174_309 : decode (tw_cd 174) 309 = .ok (.iload_n 3, 1) := by decide +kernel
theorem tz_174_309 : tw_E sc d 174 309 [x0, x1, x2, some (.int v)] st g mi mr Q = tw_E sc d 174 310 [x0, x1, x2, some (.int v)] (.int v :: st) g mi mr Q := tw_x_iload_n td_174_309 rfl
theorem td_174_310 : decode (tw_cd 174) 310 = .ok (.iconst 2, 1) := by decide +kernel
theorem tz_174_310 : tw_E sc d 174 310 [x0, x1, x2, x3] st g mi mr Q = tw_E sc d 174 311 [x0, x1, x2, x3] (.int 2 :: st) g mi mr Q := tw_x_iconst td_174_310 (by decide)
theorem td_174_311 : decode (tw_cd 174) 311 = .ok (.iadd, 1) := by decide +kernel
theorem tz_174_311 : tw_E sc d 174 311 [x0, x1, x2, x3] (.int w :: .int v :: st) g mi mr Q = tw_E sc d 174 312 [x0, x1, x2, x3] (.int (v + w) :: st) g mi mr Q := tw_x_iadd td_174_311
theorem td_174_312 : decode (tw_cd 174) 312 = .ok (.iaload, 1) := by decide +kernel
theorem tz_174_312 : tw_E sc d 174 312 [x0, x1, x2, x3] (.int v :: .retAddr a :: st) g mi mr Q = (vp_in v sc.1 ∧ tw_E sc d 174 313 [x0, x1, x2, x3] (.int (sc.2 v.toNatClampNeg) :: st) g mi mr Q) := tw_x_sald td_174_312
theorem td_174_313 : decode (tw_cd 174) 313 = .ok (.invokevirtual 46, 3) := by decide +kernel
theorem tz_174_313 {a0 : Int32} {a1 : Int32} : tw_E sc (d + 1) 174 313 [x0, x1, x2, x3] ([.int a1, .int a0, .ref a, s1]) g mi mr Q = (tw_kd g a = 10 ∧ tw_E sc d 150 0 [some (.ref a), some (.int a0), some (.int a1), none, none] [] g mi mr (tw_K sc (d + 1) 174 316 [x0, x1, x2, x3] [s1] Q)) := tw_x_cv (as := [.int a0, .int a1]) (r := [s1]) td_174_313 to_174 tc_11_46 to_150 rfl rfl rfl rfl
theorem td_174_316 : decode (tw_cd 174) 316 = .ok (.if_icmp .eq 515, 3) := by decide +kernel
theorem tz_174_316 : tw_E sc d 174 316 [x0, x1, x2, x3] (.int w :: .int v :: st) g mi mr Q = if v = w then tw_E sc d 174 831 [x0, x1, x2, x3] st g mi mr Q else tw_E sc d 174 319 [x0, x1, x2, x3] st g mi mr Q := tw_x_ic_eq td_174_316 (by decide)
theorem td_174_319 : decode (tw_cd 174) 319 = .ok (.iconst 0, 1) := by decide +kernel
theorem tz_174_319 : tw_E sc d 174 319 [x0, x1, x2, x3] st g mi mr Q = tw_E sc d 174 320 [x0, x1, x2, x3] (.int 0 :: st) g mi mr Q := tw_x_iconst td_174_319 (by decide)
theorem td_174_320 : decode (tw_cd 174) 320 = .ok (.ireturn, 1) := by decide +kernel
theorem tz_174_320 : tw_E sc d 174 320 [x0, x1, x2, x3] ([.int v]) g mi mr Q = ((v = 0 ∨ v = 1) ∧ Q (some (.int v)) g mi mr) := tw_x_zret td_174_320 tr_174
theorem td_174_321 : decode (tw_cd 174) 321 = .ok (.aload_n 1, 1) := by decide +kernel
theorem tz_174_321 : tw_E sc d 174 321 [x0, some (.ref a), x2, x3] st g mi mr Q = tw_E sc d 174 322 [x0, some (.ref a), x2, x3] (.ref a :: st) g mi mr Q := tw_x_aload_n td_174_321 rfl
theorem tz_174_321n : tw_E sc d 174 321 [x0, some .null, x2, x3] st g mi mr Q = tw_E sc d 174 322 [x0, some .null, x2, x3] (.null :: st) g mi mr Q := tw_x_aload_nN td_174_321 rfl
theorem td_174_322 : decode (tw_cd 174) 322 = .ok (.aload_n 0, 1) := by decide +kernel
theorem tz_174_322 : tw_E sc d 174 322 [some (.retAddr a), x1, x2, x3] st g mi mr Q = tw_E sc d 174 323 [some (.retAddr a), x1, x2, x3] (.retAddr a :: st) g mi mr Q := tw_x_aload_nS td_174_322 rfl
theorem td_174_323 : decode (tw_cd 174) 323 = .ok (.iload_n 3, 1) := by decide +kernel
theorem tz_174_323 : tw_E sc d 174 323 [x0, x1, x2, some (.int v)] st g mi mr Q = tw_E sc d 174 324 [x0, x1, x2, some (.int v)] (.int v :: st) g mi mr Q := tw_x_iload_n td_174_323 rfl
theorem td_174_324 : decode (tw_cd 174) 324 = .ok (.iconst 1, 1) := by decide +kernel
theorem tz_174_324 : tw_E sc d 174 324 [x0, x1, x2, x3] st g mi mr Q = tw_E sc d 174 325 [x0, x1, x2, x3] (.int 1 :: st) g mi mr Q := tw_x_iconst td_174_324 (by decide)
theorem td_174_325 : decode (tw_cd 174) 325 = .ok (.iadd, 1) := by decide +kernel
theorem tz_174_325 : tw_E sc d 174 325 [x0, x1, x2, x3] (.int w :: .int v :: st) g mi mr Q = tw_E sc d 174 326 [x0, x1, x2, x3] (.int (v + w) :: st) g mi mr Q := tw_x_iadd td_174_325
theorem td_174_326 : decode (tw_cd 174) 326 = .ok (.iaload, 1) := by decide +kernel
theorem tz_174_326 : tw_E sc d 174 326 [x0, x1, x2, x3] (.int v :: .retAddr a :: st) g mi mr Q = (vp_in v sc.1 ∧ tw_E sc d 174 327 [x0, x1, x2, x3] (.int (sc.2 v.toNatClampNeg) :: st) g mi mr Q) := tw_x_sald td_174_326
theorem td_174_327 : decode (tw_cd 174) 327 = .ok (.invokevirtual 47, 3) := by decide +kernel
theorem tz_174_327 {a0 : Int32} : tw_E sc (d + 1) 174 327 [x0, x1, x2, x3] ([.int a0, .ref a]) g mi mr Q = (tw_kd g a = 0 ∧ tw_E sc d 8 0 [some (.ref a), some (.int a0), none] [] g mi mr (tw_K sc (d + 1) 174 330 [x0, x1, x2, x3] [] Q)) := tw_x_cv (as := [.int a0]) (r := []) td_174_327 to_174 tc_11_47 to_8 rfl rfl rfl rfl
theorem td_174_330 : decode (tw_cd 174) 330 = .ok (.aload_n 2, 1) := by decide +kernel
theorem tz_174_330 : tw_E sc d 174 330 [x0, x1, some (.ref a), x3] st g mi mr Q = tw_E sc d 174 331 [x0, x1, some (.ref a), x3] (.ref a :: st) g mi mr Q := tw_x_aload_n td_174_330 rfl
theorem tz_174_330n : tw_E sc d 174 330 [x0, x1, some .null, x3] st g mi mr Q = tw_E sc d 174 331 [x0, x1, some .null, x3] (.null :: st) g mi mr Q := tw_x_aload_nN td_174_330 rfl
theorem td_174_331 : decode (tw_cd 174) 331 = .ok (.aload_n 0, 1) := by decide +kernel
theorem tz_174_331 : tw_E sc d 174 331 [some (.retAddr a), x1, x2, x3] st g mi mr Q = tw_E sc d 174 332 [some (.retAddr a), x1, x2, x3] (.retAddr a :: st) g mi mr Q := tw_x_aload_nS td_174_331 rfl
theorem td_174_332 : decode (tw_cd 174) 332 = .ok (.iload_n 3, 1) := by decide +kernel
theorem tz_174_332 : tw_E sc d 174 332 [x0, x1, x2, some (.int v)] st g mi mr Q = tw_E sc d 174 333 [x0, x1, x2, some (.int v)] (.int v :: st) g mi mr Q := tw_x_iload_n td_174_332 rfl
theorem td_174_333 : decode (tw_cd 174) 333 = .ok (.iconst 1, 1) := by decide +kernel
theorem tz_174_333 : tw_E sc d 174 333 [x0, x1, x2, x3] st g mi mr Q = tw_E sc d 174 334 [x0, x1, x2, x3] (.int 1 :: st) g mi mr Q := tw_x_iconst td_174_333 (by decide)
theorem td_174_334 : decode (tw_cd 174) 334 = .ok (.iadd, 1) := by decide +kernel
theorem tz_174_334 : tw_E sc d 174 334 [x0, x1, x2, x3] (.int w :: .int v :: st) g mi mr Q = tw_E sc d 174 335 [x0, x1, x2, x3] (.int (v + w) :: st) g mi mr Q := tw_x_iadd td_174_334
theorem td_174_335 : decode (tw_cd 174) 335 = .ok (.iaload, 1) := by decide +kernel
theorem tz_174_335 : tw_E sc d 174 335 [x0, x1, x2, x3] (.int v :: .retAddr a :: st) g mi mr Q = (vp_in v sc.1 ∧ tw_E sc d 174 336 [x0, x1, x2, x3] (.int (sc.2 v.toNatClampNeg) :: st) g mi mr Q) := tw_x_sald td_174_335
theorem td_174_336 : decode (tw_cd 174) 336 = .ok (.invokevirtual 51, 3) := by decide +kernel
theorem tz_174_336 {a0 : Int32} : tw_E sc (d + 1) 174 336 [x0, x1, x2, x3] ([.int a0, .ref a, s1]) g mi mr Q = (tw_kd g a = 10 ∧ tw_E sc d 151 0 [some (.ref a), some (.int a0)] [] g mi mr (tw_K sc (d + 1) 174 339 [x0, x1, x2, x3] [s1] Q)) := tw_x_cv (as := [.int a0]) (r := [s1]) td_174_336 to_174 tc_11_51 to_151 rfl rfl rfl rfl
theorem td_174_339 : decode (tw_cd 174) 339 = .ok (.if_icmp .eq 492, 3) := by decide +kernel
theorem tz_174_339 : tw_E sc d 174 339 [x0, x1, x2, x3] (.int w :: .int v :: st) g mi mr Q = if v = w then tw_E sc d 174 831 [x0, x1, x2, x3] st g mi mr Q else tw_E sc d 174 342 [x0, x1, x2, x3] st g mi mr Q := tw_x_ic_eq td_174_339 (by decide)
theorem td_174_342 : decode (tw_cd 174) 342 = .ok (.iconst 0, 1) := by decide +kernel
theorem tz_174_342 : tw_E sc d 174 342 [x0, x1, x2, x3] st g mi mr Q = tw_E sc d 174 343 [x0, x1, x2, x3] (.int 0 :: st) g mi mr Q := tw_x_iconst td_174_342 (by decide)
theorem td_174_343 : decode (tw_cd 174) 343 = .ok (.ireturn, 1) := by decide +kernel
theorem tz_174_343 : tw_E sc d 174 343 [x0, x1, x2, x3] ([.int v]) g mi mr Q = ((v = 0 ∨ v = 1) ∧ Q (some (.int v)) g mi mr) := tw_x_zret td_174_343 tr_174
theorem td_174_344 : decode (tw_cd 174) 344 = .ok (.aload_n 1, 1) := by decide +kernel
theorem tz_174_344 : tw_E sc d 174 344 [x0, some (.ref a), x2, x3] st g mi mr Q = tw_E sc d 174 345 [x0, some (.ref a), x2, x3] (.ref a :: st) g mi mr Q := tw_x_aload_n td_174_344 rfl
theorem tz_174_344n : tw_E sc d 174 344 [x0, some .null, x2, x3] st g mi mr Q = tw_E sc d 174 345 [x0, some .null, x2, x3] (.null :: st) g mi mr Q := tw_x_aload_nN td_174_344 rfl
theorem td_174_345 : decode (tw_cd 174) 345 = .ok (.aload_n 0, 1) := by decide +kernel
theorem tz_174_345 : tw_E sc d 174 345 [some (.retAddr a), x1, x2, x3] st g mi mr Q = tw_E sc d 174 346 [some (.retAddr a), x1, x2, x3] (.retAddr a :: st) g mi mr Q := tw_x_aload_nS td_174_345 rfl
theorem td_174_346 : decode (tw_cd 174) 346 = .ok (.iload_n 3, 1) := by decide +kernel
theorem tz_174_346 : tw_E sc d 174 346 [x0, x1, x2, some (.int v)] st g mi mr Q = tw_E sc d 174 347 [x0, x1, x2, some (.int v)] (.int v :: st) g mi mr Q := tw_x_iload_n td_174_346 rfl
theorem td_174_347 : decode (tw_cd 174) 347 = .ok (.iconst 1, 1) := by decide +kernel
theorem tz_174_347 : tw_E sc d 174 347 [x0, x1, x2, x3] st g mi mr Q = tw_E sc d 174 348 [x0, x1, x2, x3] (.int 1 :: st) g mi mr Q := tw_x_iconst td_174_347 (by decide)
theorem td_174_348 : decode (tw_cd 174) 348 = .ok (.iadd, 1) := by decide +kernel
theorem tz_174_348 : tw_E sc d 174 348 [x0, x1, x2, x3] (.int w :: .int v :: st) g mi mr Q = tw_E sc d 174 349 [x0, x1, x2, x3] (.int (v + w) :: st) g mi mr Q := tw_x_iadd td_174_348
theorem td_174_349 : decode (tw_cd 174) 349 = .ok (.iaload, 1) := by decide +kernel
theorem tz_174_349 : tw_E sc d 174 349 [x0, x1, x2, x3] (.int v :: .retAddr a :: st) g mi mr Q = (vp_in v sc.1 ∧ tw_E sc d 174 350 [x0, x1, x2, x3] (.int (sc.2 v.toNatClampNeg) :: st) g mi mr Q) := tw_x_sald td_174_349
theorem td_174_350 : decode (tw_cd 174) 350 = .ok (.invokevirtual 52, 3) := by decide +kernel
theorem tz_174_350 {a0 : Int32} : tw_E sc (d + 1) 174 350 [x0, x1, x2, x3] ([.int a0, .ref a]) g mi mr Q = (tw_kd g a = 0 ∧ tw_E sc d 9 0 [some (.ref a), some (.int a0), none] [] g mi mr (tw_K sc (d + 1) 174 353 [x0, x1, x2, x3] [] Q)) := tw_x_cv (as := [.int a0]) (r := []) td_174_350 to_174 tc_11_52 to_9 rfl rfl rfl rfl
theorem td_174_353 : decode (tw_cd 174) 353 = .ok (.aload_n 2, 1) := by decide +kernel
theorem tz_174_353 : tw_E sc d 174 353 [x0, x1, some (.ref a), x3] st g mi mr Q = tw_E sc d 174 354 [x0, x1, some (.ref a), x3] (.ref a :: st) g mi mr Q := tw_x_aload_n td_174_353 rfl
theorem tz_174_353n : tw_E sc d 174 353 [x0, x1, some .null, x3] st g mi mr Q = tw_E sc d 174 354 [x0, x1, some .null, x3] (.null :: st) g mi mr Q := tw_x_aload_nN td_174_353 rfl
theorem td_174_354 : decode (tw_cd 174) 354 = .ok (.aload_n 0, 1) := by decide +kernel
theorem tz_174_354 : tw_E sc d 174 354 [some (.retAddr a), x1, x2, x3] st g mi mr Q = tw_E sc d 174 355 [some (.retAddr a), x1, x2, x3] (.retAddr a :: st) g mi mr Q := tw_x_aload_nS td_174_354 rfl
theorem td_174_355 : decode (tw_cd 174) 355 = .ok (.iload_n 3, 1) := by decide +kernel
theorem tz_174_355 : tw_E sc d 174 355 [x0, x1, x2, some (.int v)] st g mi mr Q = tw_E sc d 174 356 [x0, x1, x2, some (.int v)] (.int v :: st) g mi mr Q := tw_x_iload_n td_174_355 rfl
theorem td_174_356 : decode (tw_cd 174) 356 = .ok (.iconst 1, 1) := by decide +kernel
theorem tz_174_356 : tw_E sc d 174 356 [x0, x1, x2, x3] st g mi mr Q = tw_E sc d 174 357 [x0, x1, x2, x3] (.int 1 :: st) g mi mr Q := tw_x_iconst td_174_356 (by decide)
theorem td_174_357 : decode (tw_cd 174) 357 = .ok (.iadd, 1) := by decide +kernel
theorem tz_174_357 : tw_E sc d 174 357 [x0, x1, x2, x3] (.int w :: .int v :: st) g mi mr Q = tw_E sc d 174 358 [x0, x1, x2, x3] (.int (v + w) :: st) g mi mr Q := tw_x_iadd td_174_357
theorem td_174_358 : decode (tw_cd 174) 358 = .ok (.iaload, 1) := by decide +kernel
theorem tz_174_358 : tw_E sc d 174 358 [x0, x1, x2, x3] (.int v :: .retAddr a :: st) g mi mr Q = (vp_in v sc.1 ∧ tw_E sc d 174 359 [x0, x1, x2, x3] (.int (sc.2 v.toNatClampNeg) :: st) g mi mr Q) := tw_x_sald td_174_358
theorem td_174_359 : decode (tw_cd 174) 359 = .ok (.invokevirtual 55, 3) := by decide +kernel
theorem tz_174_359 {a0 : Int32} : tw_E sc (d + 1) 174 359 [x0, x1, x2, x3] ([.int a0, .ref a, s1]) g mi mr Q = (tw_kd g a = 10 ∧ tw_E sc d 152 0 [some (.ref a), some (.int a0)] [] g mi mr (tw_K sc (d + 1) 174 362 [x0, x1, x2, x3] [s1] Q)) := tw_x_cv (as := [.int a0]) (r := [s1]) td_174_359 to_174 tc_11_55 to_152 rfl rfl rfl rfl
theorem td_174_362 : decode (tw_cd 174) 362 = .ok (.if_icmp .eq 469, 3) := by decide +kernel
theorem tz_174_362 : tw_E sc d 174 362 [x0, x1, x2, x3] (.int w :: .int v :: st) g mi mr Q = if v = w then tw_E sc d 174 831 [x0, x1, x2, x3] st g mi mr Q else tw_E sc d 174 365 [x0, x1, x2, x3] st g mi mr Q := tw_x_ic_eq td_174_362 (by decide)
theorem td_174_365 : decode (tw_cd 174) 365 = .ok (.iconst 0, 1) := by decide +kernel
theorem tz_174_365 : tw_E sc d 174 365 [x0, x1, x2, x3] st g mi mr Q = tw_E sc d 174 366 [x0, x1, x2, x3] (.int 0 :: st) g mi mr Q := tw_x_iconst td_174_365 (by decide)
theorem td_174_366 : decode (tw_cd 174) 366 = .ok (.ireturn, 1) := by decide +kernel
theorem tz_174_366 : tw_E sc d 174 366 [x0, x1, x2, x3] ([.int v]) g mi mr Q = ((v = 0 ∨ v = 1) ∧ Q (some (.int v)) g mi mr) := tw_x_zret td_174_366 tr_174
theorem td_174_367 : decode (tw_cd 174) 367 = .ok (.aload_n 1, 1) := by decide +kernel
theorem tz_174_367 : tw_E sc d 174 367 [x0, some (.ref a), x2, x3] st g mi mr Q = tw_E sc d 174 368 [x0, some (.ref a), x2, x3] (.ref a :: st) g mi mr Q := tw_x_aload_n td_174_367 rfl
theorem tz_174_367n : tw_E sc d 174 367 [x0, some .null, x2, x3] st g mi mr Q = tw_E sc d 174 368 [x0, some .null, x2, x3] (.null :: st) g mi mr Q := tw_x_aload_nN td_174_367 rfl
theorem td_174_368 : decode (tw_cd 174) 368 = .ok (.aload_n 0, 1) := by decide +kernel
theorem tz_174_368 : tw_E sc d 174 368 [some (.retAddr a), x1, x2, x3] st g mi mr Q = tw_E sc d 174 369 [some (.retAddr a), x1, x2, x3] (.retAddr a :: st) g mi mr Q := tw_x_aload_nS td_174_368 rfl
theorem td_174_369 : decode (tw_cd 174) 369 = .ok (.iload_n 3, 1) := by decide +kernel
theorem tz_174_369 : tw_E sc d 174 369 [x0, x1, x2, some (.int v)] st g mi mr Q = tw_E sc d 174 370 [x0, x1, x2, some (.int v)] (.int v :: st) g mi mr Q := tw_x_iload_n td_174_369 rfl
theorem td_174_370 : decode (tw_cd 174) 370 = .ok (.iconst 1, 1) := by decide +kernel
theorem tz_174_370 : tw_E sc d 174 370 [x0, x1, x2, x3] st g mi mr Q = tw_E sc d 174 371 [x0, x1, x2, x3] (.int 1 :: st) g mi mr Q := tw_x_iconst td_174_370 (by decide)
theorem td_174_371 : decode (tw_cd 174) 371 = .ok (.iadd, 1) := by decide +kernel
theorem tz_174_371 : tw_E sc d 174 371 [x0, x1, x2, x3] (.int w :: .int v :: st) g mi mr Q = tw_E sc d 174 372 [x0, x1, x2, x3] (.int (v + w) :: st) g mi mr Q := tw_x_iadd td_174_371
theorem td_174_372 : decode (tw_cd 174) 372 = .ok (.iaload, 1) := by decide +kernel
theorem tz_174_372 : tw_E sc d 174 372 [x0, x1, x2, x3] (.int v :: .retAddr a :: st) g mi mr Q = (vp_in v sc.1 ∧ tw_E sc d 174 373 [x0, x1, x2, x3] (.int (sc.2 v.toNatClampNeg) :: st) g mi mr Q) := tw_x_sald td_174_372
theorem td_174_373 : decode (tw_cd 174) 373 = .ok (.invokevirtual 56, 3) := by decide +kernel
theorem tz_174_373 {a0 : Int32} : tw_E sc (d + 1) 174 373 [x0, x1, x2, x3] ([.int a0, .ref a]) g mi mr Q = (tw_kd g a = 0 ∧ tw_E sc d 10 0 [some (.ref a), some (.int a0)] [] g mi mr (tw_K sc (d + 1) 174 376 [x0, x1, x2, x3] [] Q)) := tw_x_cv (as := [.int a0]) (r := []) td_174_373 to_174 tc_11_56 to_10 rfl rfl rfl rfl
theorem td_174_376 : decode (tw_cd 174) 376 = .ok (.aload_n 2, 1) := by decide +kernel
theorem tz_174_376 : tw_E sc d 174 376 [x0, x1, some (.ref a), x3] st g mi mr Q = tw_E sc d 174 377 [x0, x1, some (.ref a), x3] (.ref a :: st) g mi mr Q := tw_x_aload_n td_174_376 rfl
theorem tz_174_376n : tw_E sc d 174 376 [x0, x1, some .null, x3] st g mi mr Q = tw_E sc d 174 377 [x0, x1, some .null, x3] (.null :: st) g mi mr Q := tw_x_aload_nN td_174_376 rfl
theorem td_174_377 : decode (tw_cd 174) 377 = .ok (.aload_n 0, 1) := by decide +kernel
theorem tz_174_377 : tw_E sc d 174 377 [some (.retAddr a), x1, x2, x3] st g mi mr Q = tw_E sc d 174 378 [some (.retAddr a), x1, x2, x3] (.retAddr a :: st) g mi mr Q := tw_x_aload_nS td_174_377 rfl
theorem td_174_378 : decode (tw_cd 174) 378 = .ok (.iload_n 3, 1) := by decide +kernel
theorem tz_174_378 : tw_E sc d 174 378 [x0, x1, x2, some (.int v)] st g mi mr Q = tw_E sc d 174 379 [x0, x1, x2, some (.int v)] (.int v :: st) g mi mr Q := tw_x_iload_n td_174_378 rfl
theorem td_174_379 : decode (tw_cd 174) 379 = .ok (.iconst 1, 1) := by decide +kernel
theorem tz_174_379 : tw_E sc d 174 379 [x0, x1, x2, x3] st g mi mr Q = tw_E sc d 174 380 [x0, x1, x2, x3] (.int 1 :: st) g mi mr Q := tw_x_iconst td_174_379 (by decide)
theorem td_174_380 : decode (tw_cd 174) 380 = .ok (.iadd, 1) := by decide +kernel
theorem tz_174_380 : tw_E sc d 174 380 [x0, x1, x2, x3] (.int w :: .int v :: st) g mi mr Q = tw_E sc d 174 381 [x0, x1, x2, x3] (.int (v + w) :: st) g mi mr Q := tw_x_iadd td_174_380
theorem td_174_381 : decode (tw_cd 174) 381 = .ok (.iaload, 1) := by decide +kernel
theorem tz_174_381 : tw_E sc d 174 381 [x0, x1, x2, x3] (.int v :: .retAddr a :: st) g mi mr Q = (vp_in v sc.1 ∧ tw_E sc d 174 382 [x0, x1, x2, x3] (.int (sc.2 v.toNatClampNeg) :: st) g mi mr Q) := tw_x_sald td_174_381
theorem td_174_382 : decode (tw_cd 174) 382 = .ok (.invokevirtual 59, 3) := by decide +kernel
theorem tz_174_382 {a0 : Int32} : tw_E sc (d + 1) 174 382 [x0, x1, x2, x3] ([.int a0, .ref a, s1]) g mi mr Q = (tw_kd g a = 10 ∧ tw_E sc d 154 0 [some (.ref a), some (.int a0)] [] g mi mr (tw_K sc (d + 1) 174 385 [x0, x1, x2, x3] [s1] Q)) := tw_x_cv (as := [.int a0]) (r := [s1]) td_174_382 to_174 tc_11_59 to_154 rfl rfl rfl rfl
theorem td_174_385 : decode (tw_cd 174) 385 = .ok (.if_icmp .eq 446, 3) := by decide +kernel
theorem tz_174_385 : tw_E sc d 174 385 [x0, x1, x2, x3] (.int w :: .int v :: st) g mi mr Q = if v = w then tw_E sc d 174 831 [x0, x1, x2, x3] st g mi mr Q else tw_E sc d 174 388 [x0, x1, x2, x3] st g mi mr Q := tw_x_ic_eq td_174_385 (by decide)
theorem td_174_388 : decode (tw_cd 174) 388 = .ok (.iconst 0, 1) := by decide +kernel
theorem tz_174_388 : tw_E sc d 174 388 [x0, x1, x2, x3] st g mi mr Q = tw_E sc d 174 389 [x0, x1, x2, x3] (.int 0 :: st) g mi mr Q := tw_x_iconst td_174_388 (by decide)
theorem td_174_389 : decode (tw_cd 174) 389 = .ok (.ireturn, 1) := by decide +kernel
theorem tz_174_389 : tw_E sc d 174 389 [x0, x1, x2, x3] ([.int v]) g mi mr Q = ((v = 0 ∨ v = 1) ∧ Q (some (.int v)) g mi mr) := tw_x_zret td_174_389 tr_174
theorem td_174_390 : decode (tw_cd 174) 390 = .ok (.aload_n 1, 1) := by decide +kernel
theorem tz_174_390 : tw_E sc d 174 390 [x0, some (.ref a), x2, x3] st g mi mr Q = tw_E sc d 174 391 [x0, some (.ref a), x2, x3] (.ref a :: st) g mi mr Q := tw_x_aload_n td_174_390 rfl
theorem tz_174_390n : tw_E sc d 174 390 [x0, some .null, x2, x3] st g mi mr Q = tw_E sc d 174 391 [x0, some .null, x2, x3] (.null :: st) g mi mr Q := tw_x_aload_nN td_174_390 rfl
theorem td_174_391 : decode (tw_cd 174) 391 = .ok (.aload_n 0, 1) := by decide +kernel
theorem tz_174_391 : tw_E sc d 174 391 [some (.retAddr a), x1, x2, x3] st g mi mr Q = tw_E sc d 174 392 [some (.retAddr a), x1, x2, x3] (.retAddr a :: st) g mi mr Q := tw_x_aload_nS td_174_391 rfl
theorem td_174_392 : decode (tw_cd 174) 392 = .ok (.iload_n 3, 1) := by decide +kernel
theorem tz_174_392 : tw_E sc d 174 392 [x0, x1, x2, some (.int v)] st g mi mr Q = tw_E sc d 174 393 [x0, x1, x2, some (.int v)] (.int v :: st) g mi mr Q := tw_x_iload_n td_174_392 rfl
theorem td_174_393 : decode (tw_cd 174) 393 = .ok (.iconst 1, 1) := by decide +kernel
theorem tz_174_393 : tw_E sc d 174 393 [x0, x1, x2, x3] st g mi mr Q = tw_E sc d 174 394 [x0, x1, x2, x3] (.int 1 :: st) g mi mr Q := tw_x_iconst td_174_393 (by decide)
theorem td_174_394 : decode (tw_cd 174) 394 = .ok (.iadd, 1) := by decide +kernel
theorem tz_174_394 : tw_E sc d 174 394 [x0, x1, x2, x3] (.int w :: .int v :: st) g mi mr Q = tw_E sc d 174 395 [x0, x1, x2, x3] (.int (v + w) :: st) g mi mr Q := tw_x_iadd td_174_394
theorem td_174_395 : decode (tw_cd 174) 395 = .ok (.iaload, 1) := by decide +kernel
theorem tz_174_395 : tw_E sc d 174 395 [x0, x1, x2, x3] (.int v :: .retAddr a :: st) g mi mr Q = (vp_in v sc.1 ∧ tw_E sc d 174 396 [x0, x1, x2, x3] (.int (sc.2 v.toNatClampNeg) :: st) g mi mr Q) := tw_x_sald td_174_395
theorem td_174_396 : decode (tw_cd 174) 396 = .ok (.invokevirtual 60, 3) := by decide +kernel
theorem tz_174_396 {a0 : Int32} : tw_E sc (d + 1) 174 396 [x0, x1, x2, x3] ([.int a0, .ref a]) g mi mr Q = (tw_kd g a = 0 ∧ tw_E sc d 11 0 [some (.ref a), some (.int a0)] [] g mi mr (tw_K sc (d + 1) 174 399 [x0, x1, x2, x3] [] Q)) := tw_x_cv (as := [.int a0]) (r := []) td_174_396 to_174 tc_11_60 to_11 rfl rfl rfl rfl
theorem td_174_399 : decode (tw_cd 174) 399 = .ok (.aload_n 2, 1) := by decide +kernel
theorem tz_174_399 : tw_E sc d 174 399 [x0, x1, some (.ref a), x3] st g mi mr Q = tw_E sc d 174 400 [x0, x1, some (.ref a), x3] (.ref a :: st) g mi mr Q := tw_x_aload_n td_174_399 rfl
theorem tz_174_399n : tw_E sc d 174 399 [x0, x1, some .null, x3] st g mi mr Q = tw_E sc d 174 400 [x0, x1, some .null, x3] (.null :: st) g mi mr Q := tw_x_aload_nN td_174_399 rfl
theorem td_174_400 : decode (tw_cd 174) 400 = .ok (.aload_n 0, 1) := by decide +kernel
theorem tz_174_400 : tw_E sc d 174 400 [some (.retAddr a), x1, x2, x3] st g mi mr Q = tw_E sc d 174 401 [some (.retAddr a), x1, x2, x3] (.retAddr a :: st) g mi mr Q := tw_x_aload_nS td_174_400 rfl
theorem td_174_401 : decode (tw_cd 174) 401 = .ok (.iload_n 3, 1) := by decide +kernel
theorem tz_174_401 : tw_E sc d 174 401 [x0, x1, x2, some (.int v)] st g mi mr Q = tw_E sc d 174 402 [x0, x1, x2, some (.int v)] (.int v :: st) g mi mr Q := tw_x_iload_n td_174_401 rfl
theorem td_174_402 : decode (tw_cd 174) 402 = .ok (.iconst 1, 1) := by decide +kernel
theorem tz_174_402 : tw_E sc d 174 402 [x0, x1, x2, x3] st g mi mr Q = tw_E sc d 174 403 [x0, x1, x2, x3] (.int 1 :: st) g mi mr Q := tw_x_iconst td_174_402 (by decide)
theorem td_174_403 : decode (tw_cd 174) 403 = .ok (.iadd, 1) := by decide +kernel
theorem tz_174_403 : tw_E sc d 174 403 [x0, x1, x2, x3] (.int w :: .int v :: st) g mi mr Q = tw_E sc d 174 404 [x0, x1, x2, x3] (.int (v + w) :: st) g mi mr Q := tw_x_iadd td_174_403
theorem td_174_404 : decode (tw_cd 174) 404 = .ok (.iaload, 1) := by decide +kernel
theorem tz_174_404 : tw_E sc d 174 404 [x0, x1, x2, x3] (.int v :: .retAddr a :: st) g mi mr Q = (vp_in v sc.1 ∧ tw_E sc d 174 405 [x0, x1, x2, x3] (.int (sc.2 v.toNatClampNeg) :: st) g mi mr Q) := tw_x_sald td_174_404
theorem td_174_405 : decode (tw_cd 174) 405 = .ok (.invokevirtual 63, 3) := by decide +kernel
theorem tz_174_405 {a0 : Int32} : tw_E sc (d + 1) 174 405 [x0, x1, x2, x3] ([.int a0, .ref a, s1]) g mi mr Q = (tw_kd g a = 10 ∧ tw_E sc d 156 0 [some (.ref a), some (.int a0)] [] g mi mr (tw_K sc (d + 1) 174 408 [x0, x1, x2, x3] [s1] Q)) := tw_x_cv (as := [.int a0]) (r := [s1]) td_174_405 to_174 tc_11_63 to_156 rfl rfl rfl rfl
theorem td_174_408 : decode (tw_cd 174) 408 = .ok (.if_icmp .eq 423, 3) := by decide +kernel
theorem tz_174_408 : tw_E sc d 174 408 [x0, x1, x2, x3] (.int w :: .int v :: st) g mi mr Q = if v = w then tw_E sc d 174 831 [x0, x1, x2, x3] st g mi mr Q else tw_E sc d 174 411 [x0, x1, x2, x3] st g mi mr Q := tw_x_ic_eq td_174_408 (by decide)
theorem td_174_411 : decode (tw_cd 174) 411 = .ok (.iconst 0, 1) := by decide +kernel
theorem tz_174_411 : tw_E sc d 174 411 [x0, x1, x2, x3] st g mi mr Q = tw_E sc d 174 412 [x0, x1, x2, x3] (.int 0 :: st) g mi mr Q := tw_x_iconst td_174_411 (by decide)
theorem td_174_412 : decode (tw_cd 174) 412 = .ok (.ireturn, 1) := by decide +kernel
theorem tz_174_412 : tw_E sc d 174 412 [x0, x1, x2, x3] ([.int v]) g mi mr Q = ((v = 0 ∨ v = 1) ∧ Q (some (.int v)) g mi mr) := tw_x_zret td_174_412 tr_174
theorem td_174_413 : decode (tw_cd 174) 413 = .ok (.aload_n 1, 1) := by decide +kernel
theorem tz_174_413 : tw_E sc d 174 413 [x0, some (.ref a), x2, x3] st g mi mr Q = tw_E sc d 174 414 [x0, some (.ref a), x2, x3] (.ref a :: st) g mi mr Q := tw_x_aload_n td_174_413 rfl
theorem tz_174_413n : tw_E sc d 174 413 [x0, some .null, x2, x3] st g mi mr Q = tw_E sc d 174 414 [x0, some .null, x2, x3] (.null :: st) g mi mr Q := tw_x_aload_nN td_174_413 rfl
theorem td_174_414 : decode (tw_cd 174) 414 = .ok (.aload_n 0, 1) := by decide +kernel
theorem tz_174_414 : tw_E sc d 174 414 [some (.retAddr a), x1, x2, x3] st g mi mr Q = tw_E sc d 174 415 [some (.retAddr a), x1, x2, x3] (.retAddr a :: st) g mi mr Q := tw_x_aload_nS td_174_414 rfl
theorem td_174_415 : decode (tw_cd 174) 415 = .ok (.iload_n 3, 1) := by decide +kernel
theorem tz_174_415 : tw_E sc d 174 415 [x0, x1, x2, some (.int v)] st g mi mr Q = tw_E sc d 174 416 [x0, x1, x2, some (.int v)] (.int v :: st) g mi mr Q := tw_x_iload_n td_174_415 rfl
theorem td_174_416 : decode (tw_cd 174) 416 = .ok (.iconst 1, 1) := by decide +kernel
theorem tz_174_416 : tw_E sc d 174 416 [x0, x1, x2, x3] st g mi mr Q = tw_E sc d 174 417 [x0, x1, x2, x3] (.int 1 :: st) g mi mr Q := tw_x_iconst td_174_416 (by decide)
theorem td_174_417 : decode (tw_cd 174) 417 = .ok (.iadd, 1) := by decide +kernel
theorem tz_174_417 : tw_E sc d 174 417 [x0, x1, x2, x3] (.int w :: .int v :: st) g mi mr Q = tw_E sc d 174 418 [x0, x1, x2, x3] (.int (v + w) :: st) g mi mr Q := tw_x_iadd td_174_417
theorem td_174_418 : decode (tw_cd 174) 418 = .ok (.iaload, 1) := by decide +kernel
theorem tz_174_418 : tw_E sc d 174 418 [x0, x1, x2, x3] (.int v :: .retAddr a :: st) g mi mr Q = (vp_in v sc.1 ∧ tw_E sc d 174 419 [x0, x1, x2, x3] (.int (sc.2 v.toNatClampNeg) :: st) g mi mr Q) := tw_x_sald td_174_418
theorem td_174_419 : decode (tw_cd 174) 419 = .ok (.invokevirtual 64, 3) := by decide +kernel
theorem tz_174_419 {a0 : Int32} : tw_E sc (d + 1) 174 419 [x0, x1, x2, x3] ([.int a0, .ref a]) g mi mr Q = (tw_kd g a = 0 ∧ tw_E sc d 12 0 [some (.ref a), some (.int a0)] [] g mi mr (tw_K sc (d + 1) 174 422 [x0, x1, x2, x3] [] Q)) := tw_x_cv (as := [.int a0]) (r := []) td_174_419 to_174 tc_11_64 to_12 rfl rfl rfl rfl
theorem td_174_422 : decode (tw_cd 174) 422 = .ok (.aload_n 2, 1) := by decide +kernel
theorem tz_174_422 : tw_E sc d 174 422 [x0, x1, some (.ref a), x3] st g mi mr Q = tw_E sc d 174 423 [x0, x1, some (.ref a), x3] (.ref a :: st) g mi mr Q := tw_x_aload_n td_174_422 rfl
theorem tz_174_422n : tw_E sc d 174 422 [x0, x1, some .null, x3] st g mi mr Q = tw_E sc d 174 423 [x0, x1, some .null, x3] (.null :: st) g mi mr Q := tw_x_aload_nN td_174_422 rfl
theorem td_174_423 : decode (tw_cd 174) 423 = .ok (.aload_n 0, 1) := by decide +kernel
theorem tz_174_423 : tw_E sc d 174 423 [some (.retAddr a), x1, x2, x3] st g mi mr Q = tw_E sc d 174 424 [some (.retAddr a), x1, x2, x3] (.retAddr a :: st) g mi mr Q := tw_x_aload_nS td_174_423 rfl
theorem td_174_424 : decode (tw_cd 174) 424 = .ok (.iload_n 3, 1) := by decide +kernel
theorem tz_174_424 : tw_E sc d 174 424 [x0, x1, x2, some (.int v)] st g mi mr Q = tw_E sc d 174 425 [x0, x1, x2, some (.int v)] (.int v :: st) g mi mr Q := tw_x_iload_n td_174_424 rfl
theorem td_174_425 : decode (tw_cd 174) 425 = .ok (.iconst 1, 1) := by decide +kernel
theorem tz_174_425 : tw_E sc d 174 425 [x0, x1, x2, x3] st g mi mr Q = tw_E sc d 174 426 [x0, x1, x2, x3] (.int 1 :: st) g mi mr Q := tw_x_iconst td_174_425 (by decide)
theorem td_174_426 : decode (tw_cd 174) 426 = .ok (.iadd, 1) := by decide +kernel
theorem tz_174_426 : tw_E sc d 174 426 [x0, x1, x2, x3] (.int w :: .int v :: st) g mi mr Q = tw_E sc d 174 427 [x0, x1, x2, x3] (.int (v + w) :: st) g mi mr Q := tw_x_iadd td_174_426
theorem td_174_427 : decode (tw_cd 174) 427 = .ok (.iaload, 1) := by decide +kernel
theorem tz_174_427 : tw_E sc d 174 427 [x0, x1, x2, x3] (.int v :: .retAddr a :: st) g mi mr Q = (vp_in v sc.1 ∧ tw_E sc d 174 428 [x0, x1, x2, x3] (.int (sc.2 v.toNatClampNeg) :: st) g mi mr Q) := tw_x_sald td_174_427
theorem td_174_428 : decode (tw_cd 174) 428 = .ok (.invokevirtual 67, 3) := by decide +kernel
theorem tz_174_428 {a0 : Int32} : tw_E sc (d + 1) 174 428 [x0, x1, x2, x3] ([.int a0, .ref a, s1]) g mi mr Q = (tw_kd g a = 10 ∧ tw_E sc d 157 0 [some (.ref a), some (.int a0)] [] g mi mr (tw_K sc (d + 1) 174 431 [x0, x1, x2, x3] [s1] Q)) := tw_x_cv (as := [.int a0]) (r := [s1]) td_174_428 to_174 tc_11_67 to_157 rfl rfl rfl rfl
theorem td_174_431 : decode (tw_cd 174) 431 = .ok (.if_icmp .eq 400, 3) := by decide +kernel
theorem tz_174_431 : tw_E sc d 174 431 [x0, x1, x2, x3] (.int w :: .int v :: st) g mi mr Q = if v = w then tw_E sc d 174 831 [x0, x1, x2, x3] st g mi mr Q else tw_E sc d 174 434 [x0, x1, x2, x3] st g mi mr Q := tw_x_ic_eq td_174_431 (by decide)
theorem td_174_434 : decode (tw_cd 174) 434 = .ok (.iconst 0, 1) := by decide +kernel
theorem tz_174_434 : tw_E sc d 174 434 [x0, x1, x2, x3] st g mi mr Q = tw_E sc d 174 435 [x0, x1, x2, x3] (.int 0 :: st) g mi mr Q := tw_x_iconst td_174_434 (by decide)
theorem td_174_435 : decode (tw_cd 174) 435 = .ok (.ireturn, 1) := by decide +kernel
theorem tz_174_435 : tw_E sc d 174 435 [x0, x1, x2, x3] ([.int v]) g mi mr Q = ((v = 0 ∨ v = 1) ∧ Q (some (.int v)) g mi mr) := tw_x_zret td_174_435 tr_174
theorem td_174_436 : decode (tw_cd 174) 436 = .ok (.aload_n 1, 1) := by decide +kernel
theorem tz_174_436 : tw_E sc d 174 436 [x0, some (.ref a), x2, x3] st g mi mr Q = tw_E sc d 174 437 [x0, some (.ref a), x2, x3] (.ref a :: st) g mi mr Q := tw_x_aload_n td_174_436 rfl
theorem tz_174_436n : tw_E sc d 174 436 [x0, some .null, x2, x3] st g mi mr Q = tw_E sc d 174 437 [x0, some .null, x2, x3] (.null :: st) g mi mr Q := tw_x_aload_nN td_174_436 rfl
theorem td_174_437 : decode (tw_cd 174) 437 = .ok (.aload_n 0, 1) := by decide +kernel
theorem tz_174_437 : tw_E sc d 174 437 [some (.retAddr a), x1, x2, x3] st g mi mr Q = tw_E sc d 174 438 [some (.retAddr a), x1, x2, x3] (.retAddr a :: st) g mi mr Q := tw_x_aload_nS td_174_437 rfl
theorem td_174_438 : decode (tw_cd 174) 438 = .ok (.iload_n 3, 1) := by decide +kernel
theorem tz_174_438 : tw_E sc d 174 438 [x0, x1, x2, some (.int v)] st g mi mr Q = tw_E sc d 174 439 [x0, x1, x2, some (.int v)] (.int v :: st) g mi mr Q := tw_x_iload_n td_174_438 rfl
theorem td_174_439 : decode (tw_cd 174) 439 = .ok (.iconst 1, 1) := by decide +kernel
theorem tz_174_439 : tw_E sc d 174 439 [x0, x1, x2, x3] st g mi mr Q = tw_E sc d 174 440 [x0, x1, x2, x3] (.int 1 :: st) g mi mr Q := tw_x_iconst td_174_439 (by decide)
theorem td_174_440 : decode (tw_cd 174) 440 = .ok (.iadd, 1) := by decide +kernel
theorem tz_174_440 : tw_E sc d 174 440 [x0, x1, x2, x3] (.int w :: .int v :: st) g mi mr Q = tw_E sc d 174 441 [x0, x1, x2, x3] (.int (v + w) :: st) g mi mr Q := tw_x_iadd td_174_440
theorem td_174_441 : decode (tw_cd 174) 441 = .ok (.iaload, 1) := by decide +kernel
theorem tz_174_441 : tw_E sc d 174 441 [x0, x1, x2, x3] (.int v :: .retAddr a :: st) g mi mr Q = (vp_in v sc.1 ∧ tw_E sc d 174 442 [x0, x1, x2, x3] (.int (sc.2 v.toNatClampNeg) :: st) g mi mr Q) := tw_x_sald td_174_441
theorem td_174_442 : decode (tw_cd 174) 442 = .ok (.aload_n 0, 1) := by decide +kernel
theorem tz_174_442 : tw_E sc d 174 442 [some (.retAddr a), x1, x2, x3] st g mi mr Q = tw_E sc d 174 443 [some (.retAddr a), x1, x2, x3] (.retAddr a :: st) g mi mr Q := tw_x_aload_nS td_174_442 rfl
theorem td_174_443 : decode (tw_cd 174) 443 = .ok (.iload_n 3, 1) := by decide +kernel
theorem tz_174_443 : tw_E sc d 174 443 [x0, x1, x2, some (.int v)] st g mi mr Q = tw_E sc d 174 444 [x0, x1, x2, some (.int v)] (.int v :: st) g mi mr Q := tw_x_iload_n td_174_443 rfl
theorem td_174_444 : decode (tw_cd 174) 444 = .ok (.iconst 2, 1) := by decide +kernel
theorem tz_174_444 : tw_E sc d 174 444 [x0, x1, x2, x3] st g mi mr Q = tw_E sc d 174 445 [x0, x1, x2, x3] (.int 2 :: st) g mi mr Q := tw_x_iconst td_174_444 (by decide)
theorem td_174_445 : decode (tw_cd 174) 445 = .ok (.iadd, 1) := by decide +kernel
theorem tz_174_445 : tw_E sc d 174 445 [x0, x1, x2, x3] (.int w :: .int v :: st) g mi mr Q = tw_E sc d 174 446 [x0, x1, x2, x3] (.int (v + w) :: st) g mi mr Q := tw_x_iadd td_174_445
theorem td_174_446 : decode (tw_cd 174) 446 = .ok (.iaload, 1) := by decide +kernel
theorem tz_174_446 : tw_E sc d 174 446 [x0, x1, x2, x3] (.int v :: .retAddr a :: st) g mi mr Q = (vp_in v sc.1 ∧ tw_E sc d 174 447 [x0, x1, x2, x3] (.int (sc.2 v.toNatClampNeg) :: st) g mi mr Q) := tw_x_sald td_174_446
theorem td_174_447 : decode (tw_cd 174) 447 = .ok (.aload_n 0, 1) := by decide +kernel
theorem tz_174_447 : tw_E sc d 174 447 [some (.retAddr a), x1, x2, x3] st g mi mr Q = tw_E sc d 174 448 [some (.retAddr a), x1, x2, x3] (.retAddr a :: st) g mi mr Q := tw_x_aload_nS td_174_447 rfl
theorem td_174_448 : decode (tw_cd 174) 448 = .ok (.iload_n 3, 1) := by decide +kernel
theorem tz_174_448 : tw_E sc d 174 448 [x0, x1, x2, some (.int v)] st g mi mr Q = tw_E sc d 174 449 [x0, x1, x2, some (.int v)] (.int v :: st) g mi mr Q := tw_x_iload_n td_174_448 rfl
theorem td_174_449 : decode (tw_cd 174) 449 = .ok (.iconst 3, 1) := by decide +kernel
theorem tz_174_449 : tw_E sc d 174 449 [x0, x1, x2, x3] st g mi mr Q = tw_E sc d 174 450 [x0, x1, x2, x3] (.int 3 :: st) g mi mr Q := tw_x_iconst td_174_449 (by decide)
theorem td_174_450 : decode (tw_cd 174) 450 = .ok (.iadd, 1) := by decide +kernel
theorem tz_174_450 : tw_E sc d 174 450 [x0, x1, x2, x3] (.int w :: .int v :: st) g mi mr Q = tw_E sc d 174 451 [x0, x1, x2, x3] (.int (v + w) :: st) g mi mr Q := tw_x_iadd td_174_450
theorem td_174_451 : decode (tw_cd 174) 451 = .ok (.iaload, 1) := by decide +kernel
theorem tz_174_451 : tw_E sc d 174 451 [x0, x1, x2, x3] (.int v :: .retAddr a :: st) g mi mr Q = (vp_in v sc.1 ∧ tw_E sc d 174 452 [x0, x1, x2, x3] (.int (sc.2 v.toNatClampNeg) :: st) g mi mr Q) := tw_x_sald td_174_451
theorem td_174_452 : decode (tw_cd 174) 452 = .ok (.invokevirtual 68, 3) := by decide +kernel
theorem tz_174_452 {a0 : Int32} {a1 : Int32} {a2 : Int32} : tw_E sc (d + 1) 174 452 [x0, x1, x2, x3] ([.int a2, .int a1, .int a0, .ref a]) g mi mr Q = (tw_kd g a = 0 ∧ tw_E sc d 13 0 [some (.ref a), some (.int a0), some (.int a1), some (.int a2), none, none, none] [] g mi mr (tw_K sc (d + 1) 174 455 [x0, x1, x2, x3] [] Q)) := tw_x_cv (as := [.int a0, .int a1, .int a2]) (r := []) td_174_452 to_174 tc_11_68 to_13 rfl rfl rfl rfl
theorem td_174_455 : decode (tw_cd 174) 455 = .ok (.aload_n 2, 1) := by decide +kernel
theorem tz_174_455 : tw_E sc d 174 455 [x0, x1, some (.ref a), x3] st g mi mr Q = tw_E sc d 174 456 [x0, x1, some (.ref a), x3] (.ref a :: st) g mi mr Q := tw_x_aload_n td_174_455 rfl
theorem tz_174_455n : tw_E sc d 174 455 [x0, x1, some .null, x3] st g mi mr Q = tw_E sc d 174 456 [x0, x1, some .null, x3] (.null :: st) g mi mr Q := tw_x_aload_nN td_174_455 rfl
theorem td_174_456 : decode (tw_cd 174) 456 = .ok (.aload_n 0, 1) := by decide +kernel
theorem tz_174_456 : tw_E sc d 174 456 [some (.retAddr a), x1, x2, x3] st g mi mr Q = tw_E sc d 174 457 [some (.retAddr a), x1, x2, x3] (.retAddr a :: st) g mi mr Q := tw_x_aload_nS td_174_456 rfl
theorem td_174_457 : decode (tw_cd 174) 457 = .ok (.iload_n 3, 1) := by decide +kernel
theorem tz_174_457 : tw_E sc d 174 457 [x0, x1, x2, some (.int v)] st g mi mr Q = tw_E sc d 174 458 [x0, x1, x2, some (.int v)] (.int v :: st) g mi mr Q := tw_x_iload_n td_174_457 rfl
theorem td_174_458 : decode (tw_cd 174) 458 = .ok (.iconst 1, 1) := by decide +kernel
theorem tz_174_458 : tw_E sc d 174 458 [x0, x1, x2, x3] st g mi mr Q = tw_E sc d 174 459 [x0, x1, x2, x3] (.int 1 :: st) g mi mr Q := tw_x_iconst td_174_458 (by decide)
theorem td_174_459 : decode (tw_cd 174) 459 = .ok (.iadd, 1) := by decide +kernel
theorem tz_174_459 : tw_E sc d 174 459 [x0, x1, x2, x3] (.int w :: .int v :: st) g mi mr Q = tw_E sc d 174 460 [x0, x1, x2, x3] (.int (v + w) :: st) g mi mr Q := tw_x_iadd td_174_459
theorem td_174_460 : decode (tw_cd 174) 460 = .ok (.iaload, 1) := by decide +kernel
theorem tz_174_460 : tw_E sc d 174 460 [x0, x1, x2, x3] (.int v :: .retAddr a :: st) g mi mr Q = (vp_in v sc.1 ∧ tw_E sc d 174 461 [x0, x1, x2, x3] (.int (sc.2 v.toNatClampNeg) :: st) g mi mr Q) := tw_x_sald td_174_460
theorem td_174_461 : decode (tw_cd 174) 461 = .ok (.aload_n 0, 1) := by decide +kernel
theorem tz_174_461 : tw_E sc d 174 461 [some (.retAddr a), x1, x2, x3] st g mi mr Q = tw_E sc d 174 462 [some (.retAddr a), x1, x2, x3] (.retAddr a :: st) g mi mr Q := tw_x_aload_nS td_174_461 rfl
theorem td_174_462 : decode (tw_cd 174) 462 = .ok (.iload_n 3, 1) := by decide +kernel
theorem tz_174_462 : tw_E sc d 174 462 [x0, x1, x2, some (.int v)] st g mi mr Q = tw_E sc d 174 463 [x0, x1, x2, some (.int v)] (.int v :: st) g mi mr Q := tw_x_iload_n td_174_462 rfl
theorem td_174_463 : decode (tw_cd 174) 463 = .ok (.iconst 2, 1) := by decide +kernel
theorem tz_174_463 : tw_E sc d 174 463 [x0, x1, x2, x3] st g mi mr Q = tw_E sc d 174 464 [x0, x1, x2, x3] (.int 2 :: st) g mi mr Q := tw_x_iconst td_174_463 (by decide)
theorem td_174_464 : decode (tw_cd 174) 464 = .ok (.iadd, 1) := by decide +kernel
theorem tz_174_464 : tw_E sc d 174 464 [x0, x1, x2, x3] (.int w :: .int v :: st) g mi mr Q = tw_E sc d 174 465 [x0, x1, x2, x3] (.int (v + w) :: st) g mi mr Q := tw_x_iadd td_174_464
theorem td_174_465 : decode (tw_cd 174) 465 = .ok (.iaload, 1) := by decide +kernel
theorem tz_174_465 : tw_E sc d 174 465 [x0, x1, x2, x3] (.int v :: .retAddr a :: st) g mi mr Q = (vp_in v sc.1 ∧ tw_E sc d 174 466 [x0, x1, x2, x3] (.int (sc.2 v.toNatClampNeg) :: st) g mi mr Q) := tw_x_sald td_174_465
theorem td_174_466 : decode (tw_cd 174) 466 = .ok (.aload_n 0, 1) := by decide +kernel
theorem tz_174_466 : tw_E sc d 174 466 [some (.retAddr a), x1, x2, x3] st g mi mr Q = tw_E sc d 174 467 [some (.retAddr a), x1, x2, x3] (.retAddr a :: st) g mi mr Q := tw_x_aload_nS td_174_466 rfl
theorem td_174_467 : decode (tw_cd 174) 467 = .ok (.iload_n 3, 1) := by decide +kernel
theorem tz_174_467 : tw_E sc d 174 467 [x0, x1, x2, some (.int v)] st g mi mr Q = tw_E sc d 174 468 [x0, x1, x2, some (.int v)] (.int v :: st) g mi mr Q := tw_x_iload_n td_174_467 rfl
theorem td_174_468 : decode (tw_cd 174) 468 = .ok (.iconst 3, 1) := by decide +kernel
theorem tz_174_468 : tw_E sc d 174 468 [x0, x1, x2, x3] st g mi mr Q = tw_E sc d 174 469 [x0, x1, x2, x3] (.int 3 :: st) g mi mr Q := tw_x_iconst td_174_468 (by decide)
theorem td_174_469 : decode (tw_cd 174) 469 = .ok (.iadd, 1) := by decide +kernel
theorem tz_174_469 : tw_E sc d 174 469 [x0, x1, x2, x3] (.int w :: .int v :: st) g mi mr Q = tw_E sc d 174 470 [x0, x1, x2, x3] (.int (v + w) :: st) g mi mr Q := tw_x_iadd td_174_469
theorem td_174_470 : decode (tw_cd 174) 470 = .ok (.iaload, 1) := by decide +kernel
theorem tz_174_470 : tw_E sc d 174 470 [x0, x1, x2, x3] (.int v :: .retAddr a :: st) g mi mr Q = (vp_in v sc.1 ∧ tw_E sc d 174 471 [x0, x1, x2, x3] (.int (sc.2 v.toNatClampNeg) :: st) g mi mr Q) := tw_x_sald td_174_470
theorem td_174_471 : decode (tw_cd 174) 471 = .ok (.invokevirtual 71, 3) := by decide +kernel
theorem tz_174_471 {a0 : Int32} {a1 : Int32} {a2 : Int32} : tw_E sc (d + 1) 174 471 [x0, x1, x2, x3] ([.int a2, .int a1, .int a0, .ref a, s1]) g mi mr Q = (tw_kd g a = 10 ∧ tw_E sc d 158 0 [some (.ref a), some (.int a0), some (.int a1), some (.int a2), none, none] [] g mi mr (tw_K sc (d + 1) 174 474 [x0, x1, x2, x3] [s1] Q)) := tw_x_cv (as := [.int a0, .int a1, .int a2]) (r := [s1]) td_174_471 to_174 tc_11_71 to_158 rfl rfl rfl rfl
theorem td_174_474 : decode (tw_cd 174) 474 = .ok (.if_icmp .eq 357, 3) := by decide +kernel
theorem tz_174_474 : tw_E sc d 174 474 [x0, x1, x2, x3] (.int w :: .int v :: st) g mi mr Q = if v = w then tw_E sc d 174 831 [x0, x1, x2, x3] st g mi mr Q else tw_E sc d 174 477 [x0, x1, x2, x3] st g mi mr Q := tw_x_ic_eq td_174_474 (by decide)
theorem td_174_477 : decode (tw_cd 174) 477 = .ok (.iconst 0, 1) := by decide +kernel
theorem tz_174_477 : tw_E sc d 174 477 [x0, x1, x2, x3] st g mi mr Q = tw_E sc d 174 478 [x0, x1, x2, x3] (.int 0 :: st) g mi mr Q := tw_x_iconst td_174_477 (by decide)
theorem td_174_478 : decode (tw_cd 174) 478 = .ok (.ireturn, 1) := by decide +kernel
theorem tz_174_478 : tw_E sc d 174 478 [x0, x1, x2, x3] ([.int v]) g mi mr Q = ((v = 0 ∨ v = 1) ∧ Q (some (.int v)) g mi mr) := tw_x_zret td_174_478 tr_174
theorem td_174_479 : decode (tw_cd 174) 479 = .ok (.aload_n 1, 1) := by decide +kernel
theorem tz_174_479 : tw_E sc d 174 479 [x0, some (.ref a), x2, x3] st g mi mr Q = tw_E sc d 174 480 [x0, some (.ref a), x2, x3] (.ref a :: st) g mi mr Q := tw_x_aload_n td_174_479 rfl
theorem tz_174_479n : tw_E sc d 174 479 [x0, some .null, x2, x3] st g mi mr Q = tw_E sc d 174 480 [x0, some .null, x2, x3] (.null :: st) g mi mr Q := tw_x_aload_nN td_174_479 rfl
theorem td_174_480 : decode (tw_cd 174) 480 = .ok (.aload_n 0, 1) := by decide +kernel
theorem tz_174_480 : tw_E sc d 174 480 [some (.retAddr a), x1, x2, x3] st g mi mr Q = tw_E sc d 174 481 [some (.retAddr a), x1, x2, x3] (.retAddr a :: st) g mi mr Q := tw_x_aload_nS td_174_480 rfl
theorem td_174_481 : decode (tw_cd 174) 481 = .ok (.iload_n 3, 1) := by decide +kernel
theorem tz_174_481 : tw_E sc d 174 481 [x0, x1, x2, some (.int v)] st g mi mr Q = tw_E sc d 174 482 [x0, x1, x2, some (.int v)] (.int v :: st) g mi mr Q := tw_x_iload_n td_174_481 rfl
theorem td_174_482 : decode (tw_cd 174) 482 = .ok (.iconst 1, 1) := by decide +kernel
theorem tz_174_482 : tw_E sc d 174 482 [x0, x1, x2, x3] st g mi mr Q = tw_E sc d 174 483 [x0, x1, x2, x3] (.int 1 :: st) g mi mr Q := tw_x_iconst td_174_482 (by decide)
theorem td_174_483 : decode (tw_cd 174) 483 = .ok (.iadd, 1) := by decide +kernel
theorem tz_174_483 : tw_E sc d 174 483 [x0, x1, x2, x3] (.int w :: .int v :: st) g mi mr Q = tw_E sc d 174 484 [x0, x1, x2, x3] (.int (v + w) :: st) g mi mr Q := tw_x_iadd td_174_483
theorem td_174_484 : decode (tw_cd 174) 484 = .ok (.iaload, 1) := by decide +kernel
theorem tz_174_484 : tw_E sc d 174 484 [x0, x1, x2, x3] (.int v :: .retAddr a :: st) g mi mr Q = (vp_in v sc.1 ∧ tw_E sc d 174 485 [x0, x1, x2, x3] (.int (sc.2 v.toNatClampNeg) :: st) g mi mr Q) := tw_x_sald td_174_484
theorem td_174_485 : decode (tw_cd 174) 485 = .ok (.invokevirtual 72, 3) := by decide +kernel
theorem tz_174_485 {a0 : Int32} : tw_E sc (d + 1) 174 485 [x0, x1, x2, x3] ([.int a0, .ref a]) g mi mr Q = (tw_kd g a = 0 ∧ tw_E sc d 14 0 [some (.ref a), some (.int a0)] [] g mi mr (tw_K sc (d + 1) 174 488 [x0, x1, x2, x3] [] Q)) := tw_x_cv (as := [.int a0]) (r := []) td_174_485 to_174 tc_11_72 to_14 rfl rfl rfl rfl
theorem td_174_488 : decode (tw_cd 174) 488 = .ok (.aload_n 2, 1) := by decide +kernel
theorem tz_174_488 : tw_E sc d 174 488 [x0, x1, some (.ref a), x3] st g mi mr Q = tw_E sc d 174 489 [x0, x1, some (.ref a), x3] (.ref a :: st) g mi mr Q := tw_x_aload_n td_174_488 rfl
theorem tz_174_488n : tw_E sc d 174 488 [x0, x1, some .null, x3] st g mi mr Q = tw_E sc d 174 489 [x0, x1, some .null, x3] (.null :: st) g mi mr Q := tw_x_aload_nN td_174_488 rfl
theorem td_174_489 : decode (tw_cd 174) 489 = .ok (.aload_n 0, 1) := by decide +kernel
theorem tz_174_489 : tw_E sc d 174 489 [some (.retAddr a), x1, x2, x3] st g mi mr Q = tw_E sc d 174 490 [some (.retAddr a), x1, x2, x3] (.retAddr a :: st) g mi mr Q := tw_x_aload_nS td_174_489 rfl
theorem td_174_490 : decode (tw_cd 174) 490 = .ok (.iload_n 3, 1) := by decide +kernel
theorem tz_174_490 : tw_E sc d 174 490 [x0, x1, x2, some (.int v)] st g mi mr Q = tw_E sc d 174 491 [x0, x1, x2, some (.int v)] (.int v :: st) g mi mr Q := tw_x_iload_n td_174_490 rfl
theorem td_174_491 : decode (tw_cd 174) 491 = .ok (.iconst 1, 1) := by decide +kernel
theorem tz_174_491 : tw_E sc d 174 491 [x0, x1, x2, x3] st g mi mr Q = tw_E sc d 174 492 [x0, x1, x2, x3] (.int 1 :: st) g mi mr Q := tw_x_iconst td_174_491 (by decide)
theorem td_174_492 : decode (tw_cd 174) 492 = .ok (.iadd, 1) := by decide +kernel
theorem tz_174_492 : tw_E sc d 174 492 [x0, x1, x2, x3] (.int w :: .int v :: st) g mi mr Q = tw_E sc d 174 493 [x0, x1, x2, x3] (.int (v + w) :: st) g mi mr Q := tw_x_iadd td_174_492
theorem td_174_493 : decode (tw_cd 174) 493 = .ok (.iaload, 1) := by decide +kernel
theorem tz_174_493 : tw_E sc d 174 493 [x0, x1, x2, x3] (.int v :: .retAddr a :: st) g mi mr Q = (vp_in v sc.1 ∧ tw_E sc d 174 494 [x0, x1, x2, x3] (.int (sc.2 v.toNatClampNeg) :: st) g mi mr Q) := tw_x_sald td_174_493
theorem td_174_494 : decode (tw_cd 174) 494 = .ok (.invokevirtual 75, 3) := by decide +kernel
theorem tz_174_494 {a0 : Int32} : tw_E sc (d + 1) 174 494 [x0, x1, x2, x3] ([.int a0, .ref a, s1]) g mi mr Q = (tw_kd g a = 10 ∧ tw_E sc d 159 0 [some (.ref a), some (.int a0)] [] g mi mr (tw_K sc (d + 1) 174 497 [x0, x1, x2, x3] [s1] Q)) := tw_x_cv (as := [.int a0]) (r := [s1]) td_174_494 to_174 tc_11_75 to_159 rfl rfl rfl rfl
theorem td_174_497 : decode (tw_cd 174) 497 = .ok (.if_icmp .eq 334, 3) := by decide +kernel
theorem tz_174_497 : tw_E sc d 174 497 [x0, x1, x2, x3] (.int w :: .int v :: st) g mi mr Q = if v = w then tw_E sc d 174 831 [x0, x1, x2, x3] st g mi mr Q else tw_E sc d 174 500 [x0, x1, x2, x3] st g mi mr Q := tw_x_ic_eq td_174_497 (by decide)
theorem td_174_500 : decode (tw_cd 174) 500 = .ok (.iconst 0, 1) := by decide +kernel
theorem tz_174_500 : tw_E sc d 174 500 [x0, x1, x2, x3] st g mi mr Q = tw_E sc d 174 501 [x0, x1, x2, x3] (.int 0 :: st) g mi mr Q := tw_x_iconst td_174_500 (by decide)
theorem td_174_501 : decode (tw_cd 174) 501 = .ok (.ireturn, 1) := by decide +kernel
theorem tz_174_501 : tw_E sc d 174 501 [x0, x1, x2, x3] ([.int v]) g mi mr Q = ((v = 0 ∨ v = 1) ∧ Q (some (.int v)) g mi mr) := tw_x_zret td_174_501 tr_174
theorem td_174_502 : decode (tw_cd 174) 502 = .ok (.aload_n 1, 1) := by decide +kernel
theorem tz_174_502 : tw_E sc d 174 502 [x0, some (.ref a), x2, x3] st g mi mr Q = tw_E sc d 174 503 [x0, some (.ref a), x2, x3] (.ref a :: st) g mi mr Q := tw_x_aload_n td_174_502 rfl
theorem tz_174_502n : tw_E sc d 174 502 [x0, some .null, x2, x3] st g mi mr Q = tw_E sc d 174 503 [x0, some .null, x2, x3] (.null :: st) g mi mr Q := tw_x_aload_nN td_174_502 rfl
theorem td_174_503 : decode (tw_cd 174) 503 = .ok (.invokevirtual 76, 3) := by decide +kernel
theorem tz_174_503 : tw_E sc (d + 1) 174 503 [x0, x1, x2, x3] ([.ref a]) g mi mr Q = (tw_kd g a = 0 ∧ tw_E sc d 15 0 [some (.ref a)] [] g mi mr (tw_K sc (d + 1) 174 506 [x0, x1, x2, x3] [] Q)) := tw_x_cv (as := []) (r := []) td_174_503 to_174 tc_11_76 to_15 rfl rfl rfl rfl
theorem td_174_506 : decode (tw_cd 174) 506 = .ok (.aload_n 2, 1) := by decide +kernel
theorem tz_174_506 : tw_E sc d 174 506 [x0, x1, some (.ref a), x3] st g mi mr Q = tw_E sc d 174 507 [x0, x1, some (.ref a), x3] (.ref a :: st) g mi mr Q := tw_x_aload_n td_174_506 rfl
theorem tz_174_506n : tw_E sc d 174 506 [x0, x1, some .null, x3] st g mi mr Q = tw_E sc d 174 507 [x0, x1, some .null, x3] (.null :: st) g mi mr Q := tw_x_aload_nN td_174_506 rfl
theorem td_174_507 : decode (tw_cd 174) 507 = .ok (.invokevirtual 79, 3) := by decide +kernel
theorem tz_174_507 : tw_E sc (d + 1) 174 507 [x0, x1, x2, x3] ([.ref a, s1]) g mi mr Q = (tw_kd g a = 10 ∧ tw_E sc d 161 0 [some (.ref a)] [] g mi mr (tw_K sc (d + 1) 174 510 [x0, x1, x2, x3] [s1] Q)) := tw_x_cv (as := []) (r := [s1]) td_174_507 to_174 tc_11_79 to_161 rfl rfl rfl rfl
theorem td_174_510 : decode (tw_cd 174) 510 = .ok (.if_icmp .eq 321, 3) := by decide +kernel
theorem tz_174_510 : tw_E sc d 174 510 [x0, x1, x2, x3] (.int w :: .int v :: st) g mi mr Q = if v = w then tw_E sc d 174 831 [x0, x1, x2, x3] st g mi mr Q else tw_E sc d 174 513 [x0, x1, x2, x3] st g mi mr Q := tw_x_ic_eq td_174_510 (by decide)
theorem td_174_513 : decode (tw_cd 174) 513 = .ok (.iconst 0, 1) := by decide +kernel
theorem tz_174_513 : tw_E sc d 174 513 [x0, x1, x2, x3] st g mi mr Q = tw_E sc d 174 514 [x0, x1, x2, x3] (.int 0 :: st) g mi mr Q := tw_x_iconst td_174_513 (by decide)
theorem td_174_514 : decode (tw_cd 174) 514 = .ok (.ireturn, 1) := by decide +kernel
theorem tz_174_514 : tw_E sc d 174 514 [x0, x1, x2, x3] ([.int v]) g mi mr Q = ((v = 0 ∨ v = 1) ∧ Q (some (.int v)) g mi mr) := tw_x_zret td_174_514 tr_174
theorem td_174_515 : decode (tw_cd 174) 515 = .ok (.aload_n 1, 1) := by decide +kernel
theorem tz_174_515 : tw_E sc d 174 515 [x0, some (.ref a), x2, x3] st g mi mr Q = tw_E sc d 174 516 [x0, some (.ref a), x2, x3] (.ref a :: st) g mi mr Q := tw_x_aload_n td_174_515 rfl
theorem tz_174_515n : tw_E sc d 174 515 [x0, some .null, x2, x3] st g mi mr Q = tw_E sc d 174 516 [x0, some .null, x2, x3] (.null :: st) g mi mr Q := tw_x_aload_nN td_174_515 rfl
theorem td_174_516 : decode (tw_cd 174) 516 = .ok (.aload_n 0, 1) := by decide +kernel
theorem tz_174_516 : tw_E sc d 174 516 [some (.retAddr a), x1, x2, x3] st g mi mr Q = tw_E sc d 174 517 [some (.retAddr a), x1, x2, x3] (.retAddr a :: st) g mi mr Q := tw_x_aload_nS td_174_516 rfl
theorem td_174_517 : decode (tw_cd 174) 517 = .ok (.iload_n 3, 1) := by decide +kernel
theorem tz_174_517 : tw_E sc d 174 517 [x0, x1, x2, some (.int v)] st g mi mr Q = tw_E sc d 174 518 [x0, x1, x2, some (.int v)] (.int v :: st) g mi mr Q := tw_x_iload_n td_174_517 rfl
theorem td_174_518 : decode (tw_cd 174) 518 = .ok (.iconst 1, 1) := by decide +kernel
theorem tz_174_518 : tw_E sc d 174 518 [x0, x1, x2, x3] st g mi mr Q = tw_E sc d 174 519 [x0, x1, x2, x3] (.int 1 :: st) g mi mr Q := tw_x_iconst td_174_518 (by decide)
theorem td_174_519 : decode (tw_cd 174) 519 = .ok (.iadd, 1) := by decide +kernel
theorem tz_174_519 : tw_E sc d 174 519 [x0, x1, x2, x3] (.int w :: .int v :: st) g mi mr Q = tw_E sc d 174 520 [x0, x1, x2, x3] (.int (v + w) :: st) g mi mr Q := tw_x_iadd td_174_519
theorem td_174_520 : decode (tw_cd 174) 520 = .ok (.iaload, 1) := by decide +kernel
theorem tz_174_520 : tw_E sc d 174 520 [x0, x1, x2, x3] (.int v :: .retAddr a :: st) g mi mr Q = (vp_in v sc.1 ∧ tw_E sc d 174 521 [x0, x1, x2, x3] (.int (sc.2 v.toNatClampNeg) :: st) g mi mr Q) := tw_x_sald td_174_520
theorem td_174_521 : decode (tw_cd 174) 521 = .ok (.aload_n 0, 1) := by decide +kernel
theorem tz_174_521 : tw_E sc d 174 521 [some (.retAddr a), x1, x2, x3] st g mi mr Q = tw_E sc d 174 522 [some (.retAddr a), x1, x2, x3] (.retAddr a :: st) g mi mr Q := tw_x_aload_nS td_174_521 rfl
theorem td_174_522 : decode (tw_cd 174) 522 = .ok (.iload_n 3, 1) := by decide +kernel
theorem tz_174_522 : tw_E sc d 174 522 [x0, x1, x2, some (.int v)] st g mi mr Q = tw_E sc d 174 523 [x0, x1, x2, some (.int v)] (.int v :: st) g mi mr Q := tw_x_iload_n td_174_522 rfl
theorem td_174_523 : decode (tw_cd 174) 523 = .ok (.iconst 2, 1) := by decide +kernel
theorem tz_174_523 : tw_E sc d 174 523 [x0, x1, x2, x3] st g mi mr Q = tw_E sc d 174 524 [x0, x1, x2, x3] (.int 2 :: st) g mi mr Q := tw_x_iconst td_174_523 (by decide)
theorem td_174_524 : decode (tw_cd 174) 524 = .ok (.iadd, 1) := by decide +kernel
theorem tz_174_524 : tw_E sc d 174 524 [x0, x1, x2, x3] (.int w :: .int v :: st) g mi mr Q = tw_E sc d 174 525 [x0, x1, x2, x3] (.int (v + w) :: st) g mi mr Q := tw_x_iadd td_174_524
theorem td_174_525 : decode (tw_cd 174) 525 = .ok (.iaload, 1) := by decide +kernel
theorem tz_174_525 : tw_E sc d 174 525 [x0, x1, x2, x3] (.int v :: .retAddr a :: st) g mi mr Q = (vp_in v sc.1 ∧ tw_E sc d 174 526 [x0, x1, x2, x3] (.int (sc.2 v.toNatClampNeg) :: st) g mi mr Q) := tw_x_sald td_174_525
theorem td_174_526 : decode (tw_cd 174) 526 = .ok (.invokevirtual 80, 3) := by decide +kernel
theorem tz_174_526 {a0 : Int32} {a1 : Int32} : tw_E sc (d + 1) 174 526 [x0, x1, x2, x3] ([.int a1, .int a0, .ref a]) g mi mr Q = (tw_kd g a = 0 ∧ tw_E sc d 16 0 [some (.ref a), some (.int a0), some (.int a1), none] [] g mi mr (tw_K sc (d + 1) 174 529 [x0, x1, x2, x3] [] Q)) := tw_x_cv (as := [.int a0, .int a1]) (r := []) td_174_526 to_174 tc_11_80 to_16 rfl rfl rfl rfl
theorem td_174_529 : decode (tw_cd 174) 529 = .ok (.aload_n 2, 1) := by decide +kernel
theorem tz_174_529 : tw_E sc d 174 529 [x0, x1, some (.ref a), x3] st g mi mr Q = tw_E sc d 174 530 [x0, x1, some (.ref a), x3] (.ref a :: st) g mi mr Q := tw_x_aload_n td_174_529 rfl
theorem tz_174_529n : tw_E sc d 174 529 [x0, x1, some .null, x3] st g mi mr Q = tw_E sc d 174 530 [x0, x1, some .null, x3] (.null :: st) g mi mr Q := tw_x_aload_nN td_174_529 rfl
theorem td_174_530 : decode (tw_cd 174) 530 = .ok (.aload_n 0, 1) := by decide +kernel
theorem tz_174_530 : tw_E sc d 174 530 [some (.retAddr a), x1, x2, x3] st g mi mr Q = tw_E sc d 174 531 [some (.retAddr a), x1, x2, x3] (.retAddr a :: st) g mi mr Q := tw_x_aload_nS td_174_530 rfl
theorem td_174_531 : decode (tw_cd 174) 531 = .ok (.iload_n 3, 1) := by decide +kernel
theorem tz_174_531 : tw_E sc d 174 531 [x0, x1, x2, some (.int v)] st g mi mr Q = tw_E sc d 174 532 [x0, x1, x2, some (.int v)] (.int v :: st) g mi mr Q := tw_x_iload_n td_174_531 rfl
theorem td_174_532 : decode (tw_cd 174) 532 = .ok (.iconst 1, 1) := by decide +kernel
theorem tz_174_532 : tw_E sc d 174 532 [x0, x1, x2, x3] st g mi mr Q = tw_E sc d 174 533 [x0, x1, x2, x3] (.int 1 :: st) g mi mr Q := tw_x_iconst td_174_532 (by decide)
theorem td_174_533 : decode (tw_cd 174) 533 = .ok (.iadd, 1) := by decide +kernel
theorem tz_174_533 : tw_E sc d 174 533 [x0, x1, x2, x3] (.int w :: .int v :: st) g mi mr Q = tw_E sc d 174 534 [x0, x1, x2, x3] (.int (v + w) :: st) g mi mr Q := tw_x_iadd td_174_533
theorem td_174_534 : decode (tw_cd 174) 534 = .ok (.iaload, 1) := by decide +kernel
theorem tz_174_534 : tw_E sc d 174 534 [x0, x1, x2, x3] (.int v :: .retAddr a :: st) g mi mr Q = (vp_in v sc.1 ∧ tw_E sc d 174 535 [x0, x1, x2, x3] (.int (sc.2 v.toNatClampNeg) :: st) g mi mr Q) := tw_x_sald td_174_534
theorem td_174_535 : decode (tw_cd 174) 535 = .ok (.aload_n 0, 1) := by decide +kernel
theorem tz_174_535 : tw_E sc d 174 535 [some (.retAddr a), x1, x2, x3] st g mi mr Q = tw_E sc d 174 536 [some (.retAddr a), x1, x2, x3] (.retAddr a :: st) g mi mr Q := tw_x_aload_nS td_174_535 rfl
theorem td_174_536 : decode (tw_cd 174) 536 = .ok (.iload_n 3, 1) := by decide +kernel
theorem tz_174_536 : tw_E sc d 174 536 [x0, x1, x2, some (.int v)] st g mi mr Q = tw_E sc d 174 537 [x0, x1, x2, some (.int v)] (.int v :: st) g mi mr Q := tw_x_iload_n td_174_536 rfl
theorem td_174_537 : decode (tw_cd 174) 537 = .ok (.iconst 2, 1) := by decide +kernel
theorem tz_174_537 : tw_E sc d 174 537 [x0, x1, x2, x3] st g mi mr Q = tw_E sc d 174 538 [x0, x1, x2, x3] (.int 2 :: st) g mi mr Q := tw_x_iconst td_174_537 (by decide)
theorem td_174_538 : decode (tw_cd 174) 538 = .ok (.iadd, 1) := by decide +kernel
theorem tz_174_538 : tw_E sc d 174 538 [x0, x1, x2, x3] (.int w :: .int v :: st) g mi mr Q = tw_E sc d 174 539 [x0, x1, x2, x3] (.int (v + w) :: st) g mi mr Q := tw_x_iadd td_174_538
theorem td_174_539 : decode (tw_cd 174) 539 = .ok (.iaload, 1) := by decide +kernel
theorem tz_174_539 : tw_E sc d 174 539 [x0, x1, x2, x3] (.int v :: .retAddr a :: st) g mi mr Q = (vp_in v sc.1 ∧ tw_E sc d 174 540 [x0, x1, x2, x3] (.int (sc.2 v.toNatClampNeg) :: st) g mi mr Q) := tw_x_sald td_174_539
theorem td_174_540 : decode (tw_cd 174) 540 = .ok (.invokevirtual 83, 3) := by decide +kernel
theorem tz_174_540 {a0 : Int32} {a1 : Int32} : tw_E sc (d + 1) 174 540 [x0, x1, x2, x3] ([.int a1, .int a0, .ref a, s1]) g mi mr Q = (tw_kd g a = 10 ∧ tw_E sc d 162 0 [some (.ref a), some (.int a0), some (.int a1), none, none, none, none] [] g mi mr (tw_K sc (d + 1) 174 543 [x0, x1, x2, x3] [s1] Q)) := tw_x_cv (as := [.int a0, .int a1]) (r := [s1]) td_174_540 to_174 tc_11_83 to_162 rfl rfl rfl rfl
theorem td_174_543 : decode (tw_cd 174) 543 = .ok (.if_icmp .eq 288, 3) := by decide +kernel
theorem tz_174_543 : tw_E sc d 174 543 [x0, x1, x2, x3] (.int w :: .int v :: st) g mi mr Q = if v = w then tw_E sc d 174 831 [x0, x1, x2, x3] st g mi mr Q else tw_E sc d 174 546 [x0, x1, x2, x3] st g mi mr Q := tw_x_ic_eq td_174_543 (by decide)
theorem td_174_546 : decode (tw_cd 174) 546 = .ok (.iconst 0, 1) := by decide +kernel
theorem tz_174_546 : tw_E sc d 174 546 [x0, x1, x2, x3] st g mi mr Q = tw_E sc d 174 547 [x0, x1, x2, x3] (.int 0 :: st) g mi mr Q := tw_x_iconst td_174_546 (by decide)
theorem td_174_547 : decode (tw_cd 174) 547 = .ok (.ireturn, 1) := by decide +kernel
theorem tz_174_547 : tw_E sc d 174 547 [x0, x1, x2, x3] ([.int v]) g mi mr Q = ((v = 0 ∨ v = 1) ∧ Q (some (.int v)) g mi mr) := tw_x_zret td_174_547 tr_174
theorem td_174_548 : decode (tw_cd 174) 548 = .ok (.aload_n 1, 1) := by decide +kernel
theorem tz_174_548 : tw_E sc d 174 548 [x0, some (.ref a), x2, x3] st g mi mr Q = tw_E sc d 174 549 [x0, some (.ref a), x2, x3] (.ref a :: st) g mi mr Q := tw_x_aload_n td_174_548 rfl
theorem tz_174_548n : tw_E sc d 174 548 [x0, some .null, x2, x3] st g mi mr Q = tw_E sc d 174 549 [x0, some .null, x2, x3] (.null :: st) g mi mr Q := tw_x_aload_nN td_174_548 rfl
theorem td_174_549 : decode (tw_cd 174) 549 = .ok (.aload_n 0, 1) := by decide +kernel
theorem tz_174_549 : tw_E sc d 174 549 [some (.retAddr a), x1, x2, x3] st g mi mr Q = tw_E sc d 174 550 [some (.retAddr a), x1, x2, x3] (.retAddr a :: st) g mi mr Q := tw_x_aload_nS td_174_549 rfl
theorem td_174_550 : decode (tw_cd 174) 550 = .ok (.iload_n 3, 1) := by decide +kernel
theorem tz_174_550 : tw_E sc d 174 550 [x0, x1, x2, some (.int v)] st g mi mr Q = tw_E sc d 174 551 [x0, x1, x2, some (.int v)] (.int v :: st) g mi mr Q := tw_x_iload_n td_174_550 rfl
theorem td_174_551 : decode (tw_cd 174) 551 = .ok (.iconst 1, 1) := by decide +kernel
theorem tz_174_551 : tw_E sc d 174 551 [x0, x1, x2, x3] st g mi mr Q = tw_E sc d 174 552 [x0, x1, x2, x3] (.int 1 :: st) g mi mr Q := tw_x_iconst td_174_551 (by decide)
theorem td_174_552 : decode (tw_cd 174) 552 = .ok (.iadd, 1) := by decide +kernel
theorem tz_174_552 : tw_E sc d 174 552 [x0, x1, x2, x3] (.int w :: .int v :: st) g mi mr Q = tw_E sc d 174 553 [x0, x1, x2, x3] (.int (v + w) :: st) g mi mr Q := tw_x_iadd td_174_552
theorem td_174_553 : decode (tw_cd 174) 553 = .ok (.iaload, 1) := by decide +kernel
theorem tz_174_553 : tw_E sc d 174 553 [x0, x1, x2, x3] (.int v :: .retAddr a :: st) g mi mr Q = (vp_in v sc.1 ∧ tw_E sc d 174 554 [x0, x1, x2, x3] (.int (sc.2 v.toNatClampNeg) :: st) g mi mr Q) := tw_x_sald td_174_553
theorem td_174_554 : decode (tw_cd 174) 554 = .ok (.invokevirtual 84, 3) := by decide +kernel
theorem tz_174_554 {a0 : Int32} : tw_E sc (d + 1) 174 554 [x0, x1, x2, x3] ([.int a0, .ref a]) g mi mr Q = (tw_kd g a = 0 ∧ tw_E sc d 17 0 [some (.ref a), some (.int a0)] [] g mi mr (tw_K sc (d + 1) 174 557 [x0, x1, x2, x3] [] Q)) := tw_x_cv (as := [.int a0]) (r := []) td_174_554 to_174 tc_11_84 to_17 rfl rfl rfl rfl
theorem td_174_557 : decode (tw_cd 174) 557 = .ok (.aload_n 2, 1) := by decide +kernel
theorem tz_174_557 : tw_E sc d 174 557 [x0, x1, some (.ref a), x3] st g mi mr Q = tw_E sc d 174 558 [x0, x1, some (.ref a), x3] (.ref a :: st) g mi mr Q := tw_x_aload_n td_174_557 rfl
theorem tz_174_557n : tw_E sc d 174 557 [x0, x1, some .null, x3] st g mi mr Q = tw_E sc d 174 558 [x0, x1, some .null, x3] (.null :: st) g mi mr Q := tw_x_aload_nN td_174_557 rfl
theorem td_174_558 : decode (tw_cd 174) 558 = .ok (.aload_n 0, 1) := by decide +kernel
theorem tz_174_558 : tw_E sc d 174 558 [some (.retAddr a), x1, x2, x3] st g mi mr Q = tw_E sc d 174 559 [some (.retAddr a), x1, x2, x3] (.retAddr a :: st) g mi mr Q := tw_x_aload_nS td_174_558 rfl
theorem td_174_559 : decode (tw_cd 174) 559 = .ok (.iload_n 3, 1) := by decide +kernel
theorem tz_174_559 : tw_E sc d 174 559 [x0, x1, x2, some (.int v)] st g mi mr Q = tw_E sc d 174 560 [x0, x1, x2, some (.int v)] (.int v :: st) g mi mr Q := tw_x_iload_n td_174_559 rfl
theorem td_174_560 : decode (tw_cd 174) 560 = .ok (.iconst 1, 1) := by decide +kernel
theorem tz_174_560 : tw_E sc d 174 560 [x0, x1, x2, x3] st g mi mr Q = tw_E sc d 174 561 [x0, x1, x2, x3] (.int 1 :: st) g mi mr Q := tw_x_iconst td_174_560 (by decide)
theorem td_174_561 : decode (tw_cd 174) 561 = .ok (.iadd, 1) := by decide +kernel
theorem tz_174_561 : tw_E sc d 174 561 [x0, x1, x2, x3] (.int w :: .int v :: st) g mi mr Q = tw_E sc d 174 562 [x0, x1, x2, x3] (.int (v + w) :: st) g mi mr Q := tw_x_iadd td_174_561
theorem td_174_562 : decode (tw_cd 174) 562 = .ok (.iaload, 1) := by decide +kernel
theorem tz_174_562 : tw_E sc d 174 562 [x0, x1, x2, x3] (.int v :: .retAddr a :: st) g mi mr Q = (vp_in v sc.1 ∧ tw_E sc d 174 563 [x0, x1, x2, x3] (.int (sc.2 v.toNatClampNeg) :: st) g mi mr Q) := tw_x_sald td_174_562
theorem td_174_563 : decode (tw_cd 174) 563 = .ok (.invokevirtual 87, 3) := by decide +kernel
theorem tz_174_563 {a0 : Int32} : tw_E sc (d + 1) 174 563 [x0, x1, x2, x3] ([.int a0, .ref a, s1]) g mi mr Q = (tw_kd g a = 10 ∧ tw_E sc d 163 0 [some (.ref a), some (.int a0)] [] g mi mr (tw_K sc (d + 1) 174 566 [x0, x1, x2, x3] [s1] Q)) := tw_x_cv (as := [.int a0]) (r := [s1]) td_174_563 to_174 tc_11_87 to_163 rfl rfl rfl rfl
theorem td_174_566 : decode (tw_cd 174) 566 = .ok (.if_icmp .eq 265, 3) := by decide +kernel
theorem tz_174_566 : tw_E sc d 174 566 [x0, x1, x2, x3] (.int w :: .int v :: st) g mi mr Q = if v = w then tw_E sc d 174 831 [x0, x1, x2, x3] st g mi mr Q else tw_E sc d 174 569 [x0, x1, x2, x3] st g mi mr Q := tw_x_ic_eq td_174_566 (by decide)
theorem td_174_569 : decode (tw_cd 174) 569 = .ok (.iconst 0, 1) := by decide +kernel
theorem tz_174_569 : tw_E sc d 174 569 [x0, x1, x2, x3] st g mi mr Q = tw_E sc d 174 570 [x0, x1, x2, x3] (.int 0 :: st) g mi mr Q := tw_x_iconst td_174_569 (by decide)
theorem td_174_570 : decode (tw_cd 174) 570 = .ok (.ireturn, 1) := by decide +kernel
theorem tz_174_570 : tw_E sc d 174 570 [x0, x1, x2, x3] ([.int v]) g mi mr Q = ((v = 0 ∨ v = 1) ∧ Q (some (.int v)) g mi mr) := tw_x_zret td_174_570 tr_174
theorem td_174_571 : decode (tw_cd 174) 571 = .ok (.aload_n 1, 1) := by decide +kernel
theorem tz_174_571 : tw_E sc d 174 571 [x0, some (.ref a), x2, x3] st g mi mr Q = tw_E sc d 174 572 [x0, some (.ref a), x2, x3] (.ref a :: st) g mi mr Q := tw_x_aload_n td_174_571 rfl
theorem tz_174_571n : tw_E sc d 174 571 [x0, some .null, x2, x3] st g mi mr Q = tw_E sc d 174 572 [x0, some .null, x2, x3] (.null :: st) g mi mr Q := tw_x_aload_nN td_174_571 rfl
theorem td_174_572 : decode (tw_cd 174) 572 = .ok (.aload_n 0, 1) := by decide +kernel
theorem tz_174_572 : tw_E sc d 174 572 [some (.retAddr a), x1, x2, x3] st g mi mr Q = tw_E sc d 174 573 [some (.retAddr a), x1, x2, x3] (.retAddr a :: st) g mi mr Q := tw_x_aload_nS td_174_572 rfl
theorem td_174_573 : decode (tw_cd 174) 573 = .ok (.iload_n 3, 1) := by decide +kernel
theorem tz_174_573 : tw_E sc d 174 573 [x0, x1, x2, some (.int v)] st g mi mr Q = tw_E sc d 174 574 [x0, x1, x2, some (.int v)] (.int v :: st) g mi mr Q := tw_x_iload_n td_174_573 rfl
theorem td_174_574 : decode (tw_cd 174) 574 = .ok (.iconst 1, 1) := by decide +kernel
theorem tz_174_574 : tw_E sc d 174 574 [x0, x1, x2, x3] st g mi mr Q = tw_E sc d 174 575 [x0, x1, x2, x3] (.int 1 :: st) g mi mr Q := tw_x_iconst td_174_574 (by decide)
theorem td_174_575 : decode (tw_cd 174) 575 = .ok (.iadd, 1) := by decide +kernel
theorem tz_174_575 : tw_E sc d 174 575 [x0, x1, x2, x3] (.int w :: .int v :: st) g mi mr Q = tw_E sc d 174 576 [x0, x1, x2, x3] (.int (v + w) :: st) g mi mr Q := tw_x_iadd td_174_575
theorem td_174_576 : decode (tw_cd 174) 576 = .ok (.iaload, 1) := by decide +kernel
theorem tz_174_576 : tw_E sc d 174 576 [x0, x1, x2, x3] (.int v :: .retAddr a :: st) g mi mr Q = (vp_in v sc.1 ∧ tw_E sc d 174 577 [x0, x1, x2, x3] (.int (sc.2 v.toNatClampNeg) :: st) g mi mr Q) := tw_x_sald td_174_576
theorem td_174_577 : decode (tw_cd 174) 577 = .ok (.aload_n 0, 1) := by decide +kernel
theorem tz_174_577 : tw_E sc d 174 577 [some (.retAddr a), x1, x2, x3] st g mi mr Q = tw_E sc d 174 578 [some (.retAddr a), x1, x2, x3] (.retAddr a :: st) g mi mr Q := tw_x_aload_nS td_174_577 rfl
theorem td_174_578 : decode (tw_cd 174) 578 = .ok (.iload_n 3, 1) := by decide +kernel
theorem tz_174_578 : tw_E sc d 174 578 [x0, x1, x2, some (.int v)] st g mi mr Q = tw_E sc d 174 579 [x0, x1, x2, some (.int v)] (.int v :: st) g mi mr Q := tw_x_iload_n td_174_578 rfl
theorem td_174_579 : decode (tw_cd 174) 579 = .ok (.iconst 2, 1) := by decide +kernel
theorem tz_174_579 : tw_E sc d 174 579 [x0, x1, x2, x3] st g mi mr Q = tw_E sc d 174 580 [x0, x1, x2, x3] (.int 2 :: st) g mi mr Q := tw_x_iconst td_174_579 (by decide)
theorem td_174_580 : decode (tw_cd 174) 580 = .ok (.iadd, 1) := by decide +kernel
theorem tz_174_580 : tw_E sc d 174 580 [x0, x1, x2, x3] (.int w :: .int v :: st) g mi mr Q = tw_E sc d 174 581 [x0, x1, x2, x3] (.int (v + w) :: st) g mi mr Q := tw_x_iadd td_174_580
theorem td_174_581 : decode (tw_cd 174) 581 = .ok (.iaload, 1) := by decide +kernel
theorem tz_174_581 : tw_E sc d 174 581 [x0, x1, x2, x3] (.int v :: .retAddr a :: st) g mi mr Q = (vp_in v sc.1 ∧ tw_E sc d 174 582 [x0, x1, x2, x3] (.int (sc.2 v.toNatClampNeg) :: st) g mi mr Q) := tw_x_sald td_174_581
theorem td_174_582 : decode (tw_cd 174) 582 = .ok (.invokevirtual 88, 3) := by decide +kernel
theorem tz_174_582 {a0 : Int32} {a1 : Int32} : tw_E sc (d + 1) 174 582 [x0, x1, x2, x3] ([.int a1, .int a0, .ref a]) g mi mr Q = (tw_kd g a = 0 ∧ tw_E sc d 18 0 [some (.ref a), some (.int a0), some (.int a1)] [] g mi mr (tw_K sc (d + 1) 174 585 [x0, x1, x2, x3] [] Q)) := tw_x_cv (as := [.int a0, .int a1]) (r := []) td_174_582 to_174 tc_11_88 to_18 rfl rfl rfl rfl
theorem td_174_585 : decode (tw_cd 174) 585 = .ok (.aload_n 2, 1) := by decide +kernel
theorem tz_174_585 : tw_E sc d 174 585 [x0, x1, some (.ref a), x3] st g mi mr Q = tw_E sc d 174 586 [x0, x1, some (.ref a), x3] (.ref a :: st) g mi mr Q := tw_x_aload_n td_174_585 rfl
theorem tz_174_585n : tw_E sc d 174 585 [x0, x1, some .null, x3] st g mi mr Q = tw_E sc d 174 586 [x0, x1, some .null, x3] (.null :: st) g mi mr Q := tw_x_aload_nN td_174_585 rfl
theorem td_174_586 : decode (tw_cd 174) 586 = .ok (.aload_n 0, 1) := by decide +kernel
theorem tz_174_586 : tw_E sc d 174 586 [some (.retAddr a), x1, x2, x3] st g mi mr Q = tw_E sc d 174 587 [some (.retAddr a), x1, x2, x3] (.retAddr a :: st) g mi mr Q := tw_x_aload_nS td_174_586 rfl
theorem td_174_587 : decode (tw_cd 174) 587 = .ok (.iload_n 3, 1) := by decide +kernel
theorem tz_174_587 : tw_E sc d 174 587 [x0, x1, x2, some (.int v)] st g mi mr Q = tw_E sc d 174 588 [x0, x1, x2, some (.int v)] (.int v :: st) g mi mr Q := tw_x_iload_n td_174_587 rfl
theorem td_174_588 : decode (tw_cd 174) 588 = .ok (.iconst 1, 1) := by decide +kernel
theorem tz_174_588 : tw_E sc d 174 588 [x0, x1, x2, x3] st g mi mr Q = tw_E sc d 174 589 [x0, x1, x2, x3] (.int 1 :: st) g mi mr Q := tw_x_iconst td_174_588 (by decide)
theorem td_174_589 : decode (tw_cd 174) 589 = .ok (.iadd, 1) := by decide +kernel
theorem tz_174_589 : tw_E sc d 174 589 [x0, x1, x2, x3] (.int w :: .int v :: st) g mi mr Q = tw_E sc d 174 590 [x0, x1, x2, x3] (.int (v + w) :: st) g mi mr Q := tw_x_iadd td_174_589
theorem td_174_590 : decode (tw_cd 174) 590 = .ok (.iaload, 1) := by decide +kernel
theorem tz_174_590 : tw_E sc d 174 590 [x0, x1, x2, x3] (.int v :: .retAddr a :: st) g mi mr Q = (vp_in v sc.1 ∧ tw_E sc d 174 591 [x0, x1, x2, x3] (.int (sc.2 v.toNatClampNeg) :: st) g mi mr Q) := tw_x_sald td_174_590
theorem td_174_591 : decode (tw_cd 174) 591 = .ok (.aload_n 0, 1) := by decide +kernel
theorem tz_174_591 : tw_E sc d 174 591 [some (.retAddr a), x1, x2, x3] st g mi mr Q = tw_E sc d 174 592 [some (.retAddr a), x1, x2, x3] (.retAddr a :: st) g mi mr Q := tw_x_aload_nS td_174_591 rfl
theorem td_174_592 : decode (tw_cd 174) 592 = .ok (.iload_n 3, 1) := by decide +kernel
theorem tz_174_592 : tw_E sc d 174 592 [x0, x1, x2, some (.int v)] st g mi mr Q = tw_E sc d 174 593 [x0, x1, x2, some (.int v)] (.int v :: st) g mi mr Q := tw_x_iload_n td_174_592 rfl
theorem td_174_593 : decode (tw_cd 174) 593 = .ok (.iconst 2, 1) := by decide +kernel
theorem tz_174_593 : tw_E sc d 174 593 [x0, x1, x2, x3] st g mi mr Q = tw_E sc d 174 594 [x0, x1, x2, x3] (.int 2 :: st) g mi mr Q := tw_x_iconst td_174_593 (by decide)
theorem td_174_594 : decode (tw_cd 174) 594 = .ok (.iadd, 1) := by decide +kernel
theorem tz_174_594 : tw_E sc d 174 594 [x0, x1, x2, x3] (.int w :: .int v :: st) g mi mr Q = tw_E sc d 174 595 [x0, x1, x2, x3] (.int (v + w) :: st) g mi mr Q := tw_x_iadd td_174_594
theorem td_174_595 : decode (tw_cd 174) 595 = .ok (.iaload, 1) := by decide +kernel
theorem tz_174_595 : tw_E sc d 174 595 [x0, x1, x2, x3] (.int v :: .retAddr a :: st) g mi mr Q = (vp_in v sc.1 ∧ tw_E sc d 174 596 [x0, x1, x2, x3] (.int (sc.2 v.toNatClampNeg) :: st) g mi mr Q) := tw_x_sald td_174_595
theorem td_174_596 : decode (tw_cd 174) 596 = .ok (.invokevirtual 91, 3) := by decide +kernel
theorem tz_174_596 {a0 : Int32} {a1 : Int32} : tw_E sc (d + 1) 174 596 [x0, x1, x2, x3] ([.int a1, .int a0, .ref a, s1]) g mi mr Q = (tw_kd g a = 10 ∧ tw_E sc d 167 0 [some (.ref a), some (.int a0), some (.int a1), none, none] [] g mi mr (tw_K sc (d + 1) 174 599 [x0, x1, x2, x3] [s1] Q)) := tw_x_cv (as := [.int a0, .int a1]) (r := [s1]) td_174_596 to_174 tc_11_91 to_167 rfl rfl rfl rfl
theorem td_174_599 : decode (tw_cd 174) 599 = .ok (.if_icmp .eq 232, 3) := by decide +kernel
theorem tz_174_599 : tw_E sc d 174 599 [x0, x1, x2, x3] (.int w :: .int v :: st) g mi mr Q = if v = w then tw_E sc d 174 831 [x0, x1, x2, x3] st g mi mr Q else tw_E sc d 174 602 [x0, x1, x2, x3] st g mi mr Q := tw_x_ic_eq td_174_599 (by decide)
theorem td_174_602 : decode (tw_cd 174) 602 = .ok (.iconst 0, 1) := by decide +kernel
theorem tz_174_602 : tw_E sc d 174 602 [x0, x1, x2, x3] st g mi mr Q = tw_E sc d 174 603 [x0, x1, x2, x3] (.int 0 :: st) g mi mr Q := tw_x_iconst td_174_602 (by decide)
theorem td_174_603 : decode (tw_cd 174) 603 = .ok (.ireturn, 1) := by decide +kernel
theorem tz_174_603 : tw_E sc d 174 603 [x0, x1, x2, x3] ([.int v]) g mi mr Q = ((v = 0 ∨ v = 1) ∧ Q (some (.int v)) g mi mr) := tw_x_zret td_174_603 tr_174
theorem td_174_604 : decode (tw_cd 174) 604 = .ok (.aload_n 1, 1) := by decide +kernel
theorem tz_174_604 : tw_E sc d 174 604 [x0, some (.ref a), x2, x3] st g mi mr Q = tw_E sc d 174 605 [x0, some (.ref a), x2, x3] (.ref a :: st) g mi mr Q := tw_x_aload_n td_174_604 rfl
theorem tz_174_604n : tw_E sc d 174 604 [x0, some .null, x2, x3] st g mi mr Q = tw_E sc d 174 605 [x0, some .null, x2, x3] (.null :: st) g mi mr Q := tw_x_aload_nN td_174_604 rfl
theorem td_174_605 : decode (tw_cd 174) 605 = .ok (.aload_n 0, 1) := by decide +kernel
theorem tz_174_605 : tw_E sc d 174 605 [some (.retAddr a), x1, x2, x3] st g mi mr Q = tw_E sc d 174 606 [some (.retAddr a), x1, x2, x3] (.retAddr a :: st) g mi mr Q := tw_x_aload_nS td_174_605 rfl
theorem td_174_606 : decode (tw_cd 174) 606 = .ok (.iload_n 3, 1) := by decide +kernel
theorem tz_174_606 : tw_E sc d 174 606 [x0, x1, x2, some (.int v)] st g mi mr Q = tw_E sc d 174 607 [x0, x1, x2, some (.int v)] (.int v :: st) g mi mr Q := tw_x_iload_n td_174_606 rfl
theorem td_174_607 : decode (tw_cd 174) 607 = .ok (.iconst 1, 1) := by decide +kernel
theorem tz_174_607 : tw_E sc d 174 607 [x0, x1, x2, x3] st g mi mr Q = tw_E sc d 174 608 [x0, x1, x2, x3] (.int 1 :: st) g mi mr Q := tw_x_iconst td_174_607 (by decide)
theorem td_174_608 : decode (tw_cd 174) 608 = .ok (.iadd, 1) := by decide +kernel
theorem tz_174_608 : tw_E sc d 174 608 [x0, x1, x2, x3] (.int w :: .int v :: st) g mi mr Q = tw_E sc d 174 609 [x0, x1, x2, x3] (.int (v + w) :: st) g mi mr Q := tw_x_iadd td_174_608
theorem td_174_609 : decode (tw_cd 174) 609 = .ok (.iaload, 1) := by decide +kernel
theorem tz_174_609 : tw_E sc d 174 609 [x0, x1, x2, x3] (.int v :: .retAddr a :: st) g mi mr Q = (vp_in v sc.1 ∧ tw_E sc d 174 610 [x0, x1, x2, x3] (.int (sc.2 v.toNatClampNeg) :: st) g mi mr Q) := tw_x_sald td_174_609
theorem td_174_610 : decode (tw_cd 174) 610 = .ok (.aload_n 0, 1) := by decide +kernel
theorem tz_174_610 : tw_E sc d 174 610 [some (.retAddr a), x1, x2, x3] st g mi mr Q = tw_E sc d 174 611 [some (.retAddr a), x1, x2, x3] (.retAddr a :: st) g mi mr Q := tw_x_aload_nS td_174_610 rfl
theorem td_174_611 : decode (tw_cd 174) 611 = .ok (.iload_n 3, 1) := by decide +kernel
theorem tz_174_611 : tw_E sc d 174 611 [x0, x1, x2, some (.int v)] st g mi mr Q = tw_E sc d 174 612 [x0, x1, x2, some (.int v)] (.int v :: st) g mi mr Q := tw_x_iload_n td_174_611 rfl
theorem td_174_612 : decode (tw_cd 174) 612 = .ok (.iconst 2, 1) := by decide +kernel
theorem tz_174_612 : tw_E sc d 174 612 [x0, x1, x2, x3] st g mi mr Q = tw_E sc d 174 613 [x0, x1, x2, x3] (.int 2 :: st) g mi mr Q := tw_x_iconst td_174_612 (by decide)
theorem td_174_613 : decode (tw_cd 174) 613 = .ok (.iadd, 1) := by decide +kernel
theorem tz_174_613 : tw_E sc d 174 613 [x0, x1, x2, x3] (.int w :: .int v :: st) g mi mr Q = tw_E sc d 174 614 [x0, x1, x2, x3] (.int (v + w) :: st) g mi mr Q := tw_x_iadd td_174_613
theorem td_174_614 : decode (tw_cd 174) 614 = .ok (.iaload, 1) := by decide +kernel
theorem tz_174_614 : tw_E sc d 174 614 [x0, x1, x2, x3] (.int v :: .retAddr a :: st) g mi mr Q = (vp_in v sc.1 ∧ tw_E sc d 174 615 [x0, x1, x2, x3] (.int (sc.2 v.toNatClampNeg) :: st) g mi mr Q) := tw_x_sald td_174_614
theorem td_174_615 : decode (tw_cd 174) 615 = .ok (.invokevirtual 92, 3) := by decide +kernel
theorem tz_174_615 {a0 : Int32} {a1 : Int32} : tw_E sc (d + 1) 174 615 [x0, x1, x2, x3] ([.int a1, .int a0, .ref a]) g mi mr Q = (tw_kd g a = 0 ∧ tw_E sc d 19 0 [some (.ref a), some (.int a0), some (.int a1)] [] g mi mr (tw_K sc (d + 1) 174 618 [x0, x1, x2, x3] [] Q)) := tw_x_cv (as := [.int a0, .int a1]) (r := []) td_174_615 to_174 tc_11_92 to_19 rfl rfl rfl rfl
theorem td_174_618 : decode (tw_cd 174) 618 = .ok (.aload_n 2, 1) := by decide +kernel
theorem tz_174_618 : tw_E sc d 174 618 [x0, x1, some (.ref a), x3] st g mi mr Q = tw_E sc d 174 619 [x0, x1, some (.ref a), x3] (.ref a :: st) g mi mr Q := tw_x_aload_n td_174_618 rfl
theorem tz_174_618n : tw_E sc d 174 618 [x0, x1, some .null, x3] st g mi mr Q = tw_E sc d 174 619 [x0, x1, some .null, x3] (.null :: st) g mi mr Q := tw_x_aload_nN td_174_618 rfl
theorem td_174_619 : decode (tw_cd 174) 619 = .ok (.aload_n 0, 1) := by decide +kernel
theorem tz_174_619 : tw_E sc d 174 619 [some (.retAddr a), x1, x2, x3] st g mi mr Q = tw_E sc d 174 620 [some (.retAddr a), x1, x2, x3] (.retAddr a :: st) g mi mr Q := tw_x_aload_nS td_174_619 rfl
theorem td_174_620 : decode (tw_cd 174) 620 = .ok (.iload_n 3, 1) := by decide +kernel
theorem tz_174_620 : tw_E sc d 174 620 [x0, x1, x2, some (.int v)] st g mi mr Q = tw_E sc d 174 621 [x0, x1, x2, some (.int v)] (.int v :: st) g mi mr Q := tw_x_iload_n td_174_620 rfl
theorem td_174_621 : decode (tw_cd 174) 621 = .ok (.iconst 1, 1) := by decide +kernel
theorem tz_174_621 : tw_E sc d 174 621 [x0, x1, x2, x3] st g mi mr Q = tw_E sc d 174 622 [x0, x1, x2, x3] (.int 1 :: st) g mi mr Q := tw_x_iconst td_174_621 (by decide)
theorem td_174_622 : decode (tw_cd 174) 622 = .ok (.iadd, 1) := by decide +kernel
theorem tz_174_622 : tw_E sc d 174 622 [x0, x1, x2, x3] (.int w :: .int v :: st) g mi mr Q = tw_E sc d 174 623 [x0, x1, x2, x3] (.int (v + w) :: st) g mi mr Q := tw_x_iadd td_174_622
theorem td_174_623 : decode (tw_cd 174) 623 = .ok (.iaload, 1) := by decide +kernel
theorem tz_174_623 : tw_E sc d 174 623 [x0, x1, x2, x3] (.int v :: .retAddr a :: st) g mi mr Q = (vp_in v sc.1 ∧ tw_E sc d 174 624 [x0, x1, x2, x3] (.int (sc.2 v.toNatClampNeg) :: st) g mi mr Q) := tw_x_sald td_174_623
theorem td_174_624 : decode (tw_cd 174) 624 = .ok (.aload_n 0, 1) := by decide +kernel
theorem tz_174_624 : tw_E sc d 174 624 [some (.retAddr a), x1, x2, x3] st g mi mr Q = tw_E sc d 174 625 [some (.retAddr a), x1, x2, x3] (.retAddr a :: st) g mi mr Q := tw_x_aload_nS td_174_624 rfl
theorem td_174_625 : decode (tw_cd 174) 625 = .ok (.iload_n 3, 1) := by decide +kernel
theorem tz_174_625 : tw_E sc d 174 625 [x0, x1, x2, some (.int v)] st g mi mr Q = tw_E sc d 174 626 [x0, x1, x2, some (.int v)] (.int v :: st) g mi mr Q := tw_x_iload_n td_174_625 rfl
theorem td_174_626 : decode (tw_cd 174) 626 = .ok (.iconst 2, 1) := by decide +kernel
theorem tz_174_626 : tw_E sc d 174 626 [x0, x1, x2, x3] st g mi mr Q = tw_E sc d 174 627 [x0, x1, x2, x3] (.int 2 :: st) g mi mr Q := tw_x_iconst td_174_626 (by decide)
theorem td_174_627 : decode (tw_cd 174) 627 = .ok (.iadd, 1) := by decide +kernel
theorem tz_174_627 : tw_E sc d 174 627 [x0, x1, x2, x3] (.int w :: .int v :: st) g mi mr Q = tw_E sc d 174 628 [x0, x1, x2, x3] (.int (v + w) :: st) g mi mr Q := tw_x_iadd td_174_627
theorem td_174_628 : decode (tw_cd 174) 628 = .ok (.iaload, 1) := by decide +kernel
theorem tz_174_628 : tw_E sc d 174 628 [x0, x1, x2, x3] (.int v :: .retAddr a :: st) g mi mr Q = (vp_in v sc.1 ∧ tw_E sc d 174 629 [x0, x1, x2, x3] (.int (sc.2 v.toNatClampNeg) :: st) g mi mr Q) := tw_x_sald td_174_628
theorem td_174_629 : decode (tw_cd 174) 629 = .ok (.invokevirtual 95, 3) := by decide +kernel
theorem tz_174_629 {a0 : Int32} {a1 : Int32} : tw_E sc (d + 1) 174 629 [x0, x1, x2, x3] ([.int a1, .int a0, .ref a, s1]) g mi mr Q = (tw_kd g a = 10 ∧ tw_E sc d 168 0 [some (.ref a), some (.int a0), some (.int a1), none, none, none, none, none, none, none, none, none] [] g mi mr (tw_K sc (d + 1) 174 632 [x0, x1, x2, x3] [s1] Q)) := tw_x_cv (as := [.int a0, .int a1]) (r := [s1]) td_174_629 to_174 tc_11_95 to_168 rfl rfl rfl rfl
theorem td_174_632 : decode (tw_cd 174) 632 = .ok (.if_icmp .eq 199, 3) := by decide +kernel
theorem tz_174_632 : tw_E sc d 174 632 [x0, x1, x2, x3] (.int w :: .int v :: st) g mi mr Q = if v = w then tw_E sc d 174 831 [x0, x1, x2, x3] st g mi mr Q else tw_E sc d 174 635 [x0, x1, x2, x3] st g mi mr Q := tw_x_ic_eq td_174_632 (by decide)
theorem td_174_635 : decode (tw_cd 174) 635 = .ok (.iconst 0, 1) := by decide +kernel
theorem tz_174_635 : tw_E sc d 174 635 [x0, x1, x2, x3] st g mi mr Q = tw_E sc d 174 636 [x0, x1, x2, x3] (.int 0 :: st) g mi mr Q := tw_x_iconst td_174_635 (by decide)
theorem td_174_636 : decode (tw_cd 174) 636 = .ok (.ireturn, 1) := by decide +kernel
theorem tz_174_636 : tw_E sc d 174 636 [x0, x1, x2, x3] ([.int v]) g mi mr Q = ((v = 0 ∨ v = 1) ∧ Q (some (.int v)) g mi mr) := tw_x_zret td_174_636 tr_174
theorem td_174_637 : decode (tw_cd 174) 637 = .ok (.aload_n 1, 1) := by decide +kernel
theorem tz_174_637 : tw_E sc d 174 637 [x0, some (.ref a), x2, x3] st g mi mr Q = tw_E sc d 174 638 [x0, some (.ref a), x2, x3] (.ref a :: st) g mi mr Q := tw_x_aload_n td_174_637 rfl
theorem tz_174_637n : tw_E sc d 174 637 [x0, some .null, x2, x3] st g mi mr Q = tw_E sc d 174 638 [x0, some .null, x2, x3] (.null :: st) g mi mr Q := tw_x_aload_nN td_174_637 rfl
theorem td_174_638 : decode (tw_cd 174) 638 = .ok (.aload_n 0, 1) := by decide +kernel
theorem tz_174_638 : tw_E sc d 174 638 [some (.retAddr a), x1, x2, x3] st g mi mr Q = tw_E sc d 174 639 [some (.retAddr a), x1, x2, x3] (.retAddr a :: st) g mi mr Q := tw_x_aload_nS td_174_638 rfl
theorem td_174_639 : decode (tw_cd 174) 639 = .ok (.iload_n 3, 1) := by decide +kernel
theorem tz_174_639 : tw_E sc d 174 639 [x0, x1, x2, some (.int v)] st g mi mr Q = tw_E sc d 174 640 [x0, x1, x2, some (.int v)] (.int v :: st) g mi mr Q := tw_x_iload_n td_174_639 rfl
theorem td_174_640 : decode (tw_cd 174) 640 = .ok (.iconst 1, 1) := by decide +kernel
theorem tz_174_640 : tw_E sc d 174 640 [x0, x1, x2, x3] st g mi mr Q = tw_E sc d 174 641 [x0, x1, x2, x3] (.int 1 :: st) g mi mr Q := tw_x_iconst td_174_640 (by decide)
theorem td_174_641 : decode (tw_cd 174) 641 = .ok (.iadd, 1) := by decide +kernel
theorem tz_174_641 : tw_E sc d 174 641 [x0, x1, x2, x3] (.int w :: .int v :: st) g mi mr Q = tw_E sc d 174 642 [x0, x1, x2, x3] (.int (v + w) :: st) g mi mr Q := tw_x_iadd td_174_641
theorem td_174_642 : decode (tw_cd 174) 642 = .ok (.iaload, 1) := by decide +kernel
theorem tz_174_642 : tw_E sc d 174 642 [x0, x1, x2, x3] (.int v :: .retAddr a :: st) g mi mr Q = (vp_in v sc.1 ∧ tw_E sc d 174 643 [x0, x1, x2, x3] (.int (sc.2 v.toNatClampNeg) :: st) g mi mr Q) := tw_x_sald td_174_642
theorem td_174_643 : decode (tw_cd 174) 643 = .ok (.aload_n 0, 1) := by decide +kernel
theorem tz_174_643 : tw_E sc d 174 643 [some (.retAddr a), x1, x2, x3] st g mi mr Q = tw_E sc d 174 644 [some (.retAddr a), x1, x2, x3] (.retAddr a :: st) g mi mr Q := tw_x_aload_nS td_174_643 rfl
theorem td_174_644 : decode (tw_cd 174) 644 = .ok (.iload_n 3, 1) := by decide +kernel
theorem tz_174_644 : tw_E sc d 174 644 [x0, x1, x2, some (.int v)] st g mi mr Q = tw_E sc d 174 645 [x0, x1, x2, some (.int v)] (.int v :: st) g mi mr Q := tw_x_iload_n td_174_644 rfl
theorem td_174_645 : decode (tw_cd 174) 645 = .ok (.iconst 2, 1) := by decide +kernel
theorem tz_174_645 : tw_E sc d 174 645 [x0, x1, x2, x3] st g mi mr Q = tw_E sc d 174 646 [x0, x1, x2, x3] (.int 2 :: st) g mi mr Q := tw_x_iconst td_174_645 (by decide)
theorem td_174_646 : decode (tw_cd 174) 646 = .ok (.iadd, 1) := by decide +kernel
theorem tz_174_646 : tw_E sc d 174 646 [x0, x1, x2, x3] (.int w :: .int v :: st) g mi mr Q = tw_E sc d 174 647 [x0, x1, x2, x3] (.int (v + w) :: st) g mi mr Q := tw_x_iadd td_174_646
theorem td_174_647 : decode (tw_cd 174) 647 = .ok (.iaload, 1) := by decide +kernel
theorem tz_174_647 : tw_E sc d 174 647 [x0, x1, x2, x3] (.int v :: .retAddr a :: st) g mi mr Q = (vp_in v sc.1 ∧ tw_E sc d 174 648 [x0, x1, x2, x3] (.int (sc.2 v.toNatClampNeg) :: st) g mi mr Q) := tw_x_sald td_174_647
theorem td_174_648 : decode (tw_cd 174) 648 = .ok (.invokevirtual 96, 3) := by decide +kernel
theorem tz_174_648 {a0 : Int32} {a1 : Int32} : tw_E sc (d + 1) 174 648 [x0, x1, x2, x3] ([.int a1, .int a0, .ref a]) g mi mr Q = (tw_kd g a = 0 ∧ tw_E sc d 20 0 [some (.ref a), some (.int a0), some (.int a1)] [] g mi mr (tw_K sc (d + 1) 174 651 [x0, x1, x2, x3] [] Q)) := tw_x_cv (as := [.int a0, .int a1]) (r := []) td_174_648 to_174 tc_11_96 to_20 rfl rfl rfl rfl
theorem td_174_651 : decode (tw_cd 174) 651 = .ok (.aload_n 2, 1) := by decide +kernel
theorem tz_174_651 : tw_E sc d 174 651 [x0, x1, some (.ref a), x3] st g mi mr Q = tw_E sc d 174 652 [x0, x1, some (.ref a), x3] (.ref a :: st) g mi mr Q := tw_x_aload_n td_174_651 rfl
theorem tz_174_651n : tw_E sc d 174 651 [x0, x1, some .null, x3] st g mi mr Q = tw_E sc d 174 652 [x0, x1, some .null, x3] (.null :: st) g mi mr Q := tw_x_aload_nN td_174_651 rfl
theorem td_174_652 : decode (tw_cd 174) 652 = .ok (.aload_n 0, 1) := by decide +kernel
theorem tz_174_652 : tw_E sc d 174 652 [some (.retAddr a), x1, x2, x3] st g mi mr Q = tw_E sc d 174 653 [some (.retAddr a), x1, x2, x3] (.retAddr a :: st) g mi mr Q := tw_x_aload_nS td_174_652 rfl
theorem td_174_653 : decode (tw_cd 174) 653 = .ok (.iload_n 3, 1) := by decide +kernel
theorem tz_174_653 : tw_E sc d 174 653 [x0, x1, x2, some (.int v)] st g mi mr Q = tw_E sc d 174 654 [x0, x1, x2, some (.int v)] (.int v :: st) g mi mr Q := tw_x_iload_n td_174_653 rfl
theorem td_174_654 : decode (tw_cd 174) 654 = .ok (.iconst 1, 1) := by decide +kernel
theorem tz_174_654 : tw_E sc d 174 654 [x0, x1, x2, x3] st g mi mr Q = tw_E sc d 174 655 [x0, x1, x2, x3] (.int 1 :: st) g mi mr Q := tw_x_iconst td_174_654 (by decide)
theorem td_174_655 : decode (tw_cd 174) 655 = .ok (.iadd, 1) := by decide +kernel
theorem tz_174_655 : tw_E sc d 174 655 [x0, x1, x2, x3] (.int w :: .int v :: st) g mi mr Q = tw_E sc d 174 656 [x0, x1, x2, x3] (.int (v + w) :: st) g mi mr Q := tw_x_iadd td_174_655
theorem td_174_656 : decode (tw_cd 174) 656 = .ok (.iaload, 1) := by decide +kernel
theorem tz_174_656 : tw_E sc d 174 656 [x0, x1, x2, x3] (.int v :: .retAddr a :: st) g mi mr Q = (vp_in v sc.1 ∧ tw_E sc d 174 657 [x0, x1, x2, x3] (.int (sc.2 v.toNatClampNeg) :: st) g mi mr Q) := tw_x_sald td_174_656
theorem td_174_657 : decode (tw_cd 174) 657 = .ok (.aload_n 0, 1) := by decide +kernel
theorem tz_174_657 : tw_E sc d 174 657 [some (.retAddr a), x1, x2, x3] st g mi mr Q = tw_E sc d 174 658 [some (.retAddr a), x1, x2, x3] (.retAddr a :: st) g mi mr Q := tw_x_aload_nS td_174_657 rfl
theorem td_174_658 : decode (tw_cd 174) 658 = .ok (.iload_n 3, 1) := by decide +kernel
theorem tz_174_658 : tw_E sc d 174 658 [x0, x1, x2, some (.int v)] st g mi mr Q = tw_E sc d 174 659 [x0, x1, x2, some (.int v)] (.int v :: st) g mi mr Q := tw_x_iload_n td_174_658 rfl
theorem td_174_659 : decode (tw_cd 174) 659 = .ok (.iconst 2, 1) := by decide +kernel
theorem tz_174_659 : tw_E sc d 174 659 [x0, x1, x2, x3] st g mi mr Q = tw_E sc d 174 660 [x0, x1, x2, x3] (.int 2 :: st) g mi mr Q := tw_x_iconst td_174_659 (by decide)
theorem td_174_660 : decode (tw_cd 174) 660 = .ok (.iadd, 1) := by decide +kernel
theorem tz_174_660 : tw_E sc d 174 660 [x0, x1, x2, x3] (.int w :: .int v :: st) g mi mr Q = tw_E sc d 174 661 [x0, x1, x2, x3] (.int (v + w) :: st) g mi mr Q := tw_x_iadd td_174_660
theorem td_174_661 : decode (tw_cd 174) 661 = .ok (.iaload, 1) := by decide +kernel
theorem tz_174_661 : tw_E sc d 174 661 [x0, x1, x2, x3] (.int v :: .retAddr a :: st) g mi mr Q = (vp_in v sc.1 ∧ tw_E sc d 174 662 [x0, x1, x2, x3] (.int (sc.2 v.toNatClampNeg) :: st) g mi mr Q) := tw_x_sald td_174_661
theorem td_174_662 : decode (tw_cd 174) 662 = .ok (.invokevirtual 99, 3) := by decide +kernel
theorem tz_174_662 {a0 : Int32} {a1 : Int32} : tw_E sc (d + 1) 174 662 [x0, x1, x2, x3] ([.int a1, .int a0, .ref a, s1]) g mi mr Q = (tw_kd g a = 10 ∧ tw_E sc d 169 0 [some (.ref a), some (.int a0), some (.int a1)] [] g mi mr (tw_K sc (d + 1) 174 665 [x0, x1, x2, x3] [s1] Q)) := tw_x_cv (as := [.int a0, .int a1]) (r := [s1]) td_174_662 to_174 tc_11_99 to_169 rfl rfl rfl rfl
theorem td_174_665 : decode (tw_cd 174) 665 = .ok (.if_icmp .eq 166, 3) := by decide +kernel
theorem tz_174_665 : tw_E sc d 174 665 [x0, x1, x2, x3] (.int w :: .int v :: st) g mi mr Q = if v = w then tw_E sc d 174 831 [x0, x1, x2, x3] st g mi mr Q else tw_E sc d 174 668 [x0, x1, x2, x3] st g mi mr Q := tw_x_ic_eq td_174_665 (by decide)
theorem td_174_668 : decode (tw_cd 174) 668 = .ok (.iconst 0, 1) := by decide +kernel
theorem tz_174_668 : tw_E sc d 174 668 [x0, x1, x2, x3] st g mi mr Q = tw_E sc d 174 669 [x0, x1, x2, x3] (.int 0 :: st) g mi mr Q := tw_x_iconst td_174_668 (by decide)
theorem td_174_669 : decode (tw_cd 174) 669 = .ok (.ireturn, 1) := by decide +kernel
theorem tz_174_669 : tw_E sc d 174 669 [x0, x1, x2, x3] ([.int v]) g mi mr Q = ((v = 0 ∨ v = 1) ∧ Q (some (.int v)) g mi mr) := tw_x_zret td_174_669 tr_174
theorem td_174_670 : decode (tw_cd 174) 670 = .ok (.aload_n 1, 1) := by decide +kernel
theorem tz_174_670 : tw_E sc d 174 670 [x0, some (.ref a), x2, x3] st g mi mr Q = tw_E sc d 174 671 [x0, some (.ref a), x2, x3] (.ref a :: st) g mi mr Q := tw_x_aload_n td_174_670 rfl
theorem tz_174_670n : tw_E sc d 174 670 [x0, some .null, x2, x3] st g mi mr Q = tw_E sc d 174 671 [x0, some .null, x2, x3] (.null :: st) g mi mr Q := tw_x_aload_nN td_174_670 rfl
theorem td_174_671 : decode (tw_cd 174) 671 = .ok (.aload_n 0, 1) := by decide +kernel
theorem tz_174_671 : tw_E sc d 174 671 [some (.retAddr a), x1, x2, x3] st g mi mr Q = tw_E sc d 174 672 [some (.retAddr a), x1, x2, x3] (.retAddr a :: st) g mi mr Q := tw_x_aload_nS td_174_671 rfl
theorem td_174_672 : decode (tw_cd 174) 672 = .ok (.iload_n 3, 1) := by decide +kernel
theorem tz_174_672 : tw_E sc d 174 672 [x0, x1, x2, some (.int v)] st g mi mr Q = tw_E sc d 174 673 [x0, x1, x2, some (.int v)] (.int v :: st) g mi mr Q := tw_x_iload_n td_174_672 rfl
theorem td_174_673 : decode (tw_cd 174) 673 = .ok (.iconst 1, 1) := by decide +kernel
theorem tz_174_673 : tw_E sc d 174 673 [x0, x1, x2, x3] st g mi mr Q = tw_E sc d 174 674 [x0, x1, x2, x3] (.int 1 :: st) g mi mr Q := tw_x_iconst td_174_673 (by decide)
theorem td_174_674 : decode (tw_cd 174) 674 = .ok (.iadd, 1) := by decide +kernel
theorem tz_174_674 : tw_E sc d 174 674 [x0, x1, x2, x3] (.int w :: .int v :: st) g mi mr Q = tw_E sc d 174 675 [x0, x1, x2, x3] (.int (v + w) :: st) g mi mr Q := tw_x_iadd td_174_674
theorem td_174_675 : decode (tw_cd 174) 675 = .ok (.iaload, 1) := by decide +kernel
theorem tz_174_675 : tw_E sc d 174 675 [x0, x1, x2, x3] (.int v :: .retAddr a :: st) g mi mr Q = (vp_in v sc.1 ∧ tw_E sc d 174 676 [x0, x1, x2, x3] (.int (sc.2 v.toNatClampNeg) :: st) g mi mr Q) := tw_x_sald td_174_675
theorem td_174_676 : decode (tw_cd 174) 676 = .ok (.aload_n 0, 1) := by decide +kernel
theorem tz_174_676 : tw_E sc d 174 676 [some (.retAddr a), x1, x2, x3] st g mi mr Q = tw_E sc d 174 677 [some (.retAddr a), x1, x2, x3] (.retAddr a :: st) g mi mr Q := tw_x_aload_nS td_174_676 rfl
theorem td_174_677 : decode (tw_cd 174) 677 = .ok (.iload_n 3, 1) := by decide +kernel
theorem tz_174_677 : tw_E sc d 174 677 [x0, x1, x2, some (.int v)] st g mi mr Q = tw_E sc d 174 678 [x0, x1, x2, some (.int v)] (.int v :: st) g mi mr Q := tw_x_iload_n td_174_677 rfl
theorem td_174_678 : decode (tw_cd 174) 678 = .ok (.iconst 2, 1) := by decide +kernel
theorem tz_174_678 : tw_E sc d 174 678 [x0, x1, x2, x3] st g mi mr Q = tw_E sc d 174 679 [x0, x1, x2, x3] (.int 2 :: st) g mi mr Q := tw_x_iconst td_174_678 (by decide)
theorem td_174_679 : decode (tw_cd 174) 679 = .ok (.iadd, 1) := by decide +kernel
theorem tz_174_679 : tw_E sc d 174 679 [x0, x1, x2, x3] (.int w :: .int v :: st) g mi mr Q = tw_E sc d 174 680 [x0, x1, x2, x3] (.int (v + w) :: st) g mi mr Q := tw_x_iadd td_174_679
theorem td_174_680 : decode (tw_cd 174) 680 = .ok (.iaload, 1) := by decide +kernel
theorem tz_174_680 : tw_E sc d 174 680 [x0, x1, x2, x3] (.int v :: .retAddr a :: st) g mi mr Q = (vp_in v sc.1 ∧ tw_E sc d 174 681 [x0, x1, x2, x3] (.int (sc.2 v.toNatClampNeg) :: st) g mi mr Q) := tw_x_sald td_174_680
theorem td_174_681 : decode (tw_cd 174) 681 = .ok (.aload_n 0, 1) := by decide +kernel
theorem tz_174_681 : tw_E sc d 174 681 [some (.retAddr a), x1, x2, x3] st g mi mr Q = tw_E sc d 174 682 [some (.retAddr a), x1, x2, x3] (.retAddr a :: st) g mi mr Q := tw_x_aload_nS td_174_681 rfl
theorem td_174_682 : decode (tw_cd 174) 682 = .ok (.iload_n 3, 1) := by decide +kernel
theorem tz_174_682 : tw_E sc d 174 682 [x0, x1, x2, some (.int v)] st g mi mr Q = tw_E sc d 174 683 [x0, x1, x2, some (.int v)] (.int v :: st) g mi mr Q := tw_x_iload_n td_174_682 rfl
theorem td_174_683 : decode (tw_cd 174) 683 = .ok (.iconst 3, 1) := by decide +kernel
theorem tz_174_683 : tw_E sc d 174 683 [x0, x1, x2, x3] st g mi mr Q = tw_E sc d 174 684 [x0, x1, x2, x3] (.int 3 :: st) g mi mr Q := tw_x_iconst td_174_683 (by decide)
theorem td_174_684 : decode (tw_cd 174) 684 = .ok (.iadd, 1) := by decide +kernel
theorem tz_174_684 : tw_E sc d 174 684 [x0, x1, x2, x3] (.int w :: .int v :: st) g mi mr Q = tw_E sc d 174 685 [x0, x1, x2, x3] (.int (v + w) :: st) g mi mr Q := tw_x_iadd td_174_684
theorem td_174_685 : decode (tw_cd 174) 685 = .ok (.iaload, 1) := by decide +kernel
theorem tz_174_685 : tw_E sc d 174 685 [x0, x1, x2, x3] (.int v :: .retAddr a :: st) g mi mr Q = (vp_in v sc.1 ∧ tw_E sc d 174 686 [x0, x1, x2, x3] (.int (sc.2 v.toNatClampNeg) :: st) g mi mr Q) := tw_x_sald td_174_685
theorem td_174_686 : decode (tw_cd 174) 686 = .ok (.invokevirtual 100, 3) := by decide +kernel
theorem tz_174_686 {a0 : Int32} {a1 : Int32} {a2 : Int32} : tw_E sc (d + 1) 174 686 [x0, x1, x2, x3] ([.int a2, .int a1, .int a0, .ref a]) g mi mr Q = (tw_kd g a = 0 ∧ tw_E sc d 21 0 [some (.ref a), some (.int a0), some (.int a1), some (.int a2), none] [] g mi mr (tw_K sc (d + 1) 174 689 [x0, x1, x2, x3] [] Q)) := tw_x_cv (as := [.int a0, .int a1, .int a2]) (r := []) td_174_686 to_174 tc_11_100 to_21 rfl rfl rfl rfl
theorem td_174_689 : decode (tw_cd 174) 689 = .ok (.aload_n 2, 1) := by decide +kernel
theorem tz_174_689 : tw_E sc d 174 689 [x0, x1, some (.ref a), x3] st g mi mr Q = tw_E sc d 174 690 [x0, x1, some (.ref a), x3] (.ref a :: st) g mi mr Q := tw_x_aload_n td_174_689 rfl
theorem tz_174_689n : tw_E sc d 174 689 [x0, x1, some .null, x3] st g mi mr Q = tw_E sc d 174 690 [x0, x1, some .null, x3] (.null :: st) g mi mr Q := tw_x_aload_nN td_174_689 rfl
theorem td_174_690 : decode (tw_cd 174) 690 = .ok (.aload_n 0, 1) := by decide +kernel
theorem tz_174_690 : tw_E sc d 174 690 [some (.retAddr a), x1, x2, x3] st g mi mr Q = tw_E sc d 174 691 [some (.retAddr a), x1, x2, x3] (.retAddr a :: st) g mi mr Q := tw_x_aload_nS td_174_690 rfl
theorem td_174_691 : decode (tw_cd 174) 691 = .ok (.iload_n 3, 1) := by decide +kernel
theorem tz_174_691 : tw_E sc d 174 691 [x0, x1, x2, some (.int v)] st g mi mr Q = tw_E sc d 174 692 [x0, x1, x2, some (.int v)] (.int v :: st) g mi mr Q := tw_x_iload_n td_174_691 rfl
theorem td_174_692 : decode (tw_cd 174) 692 = .ok (.iconst 1, 1) := by decide +kernel
theorem tz_174_692 : tw_E sc d 174 692 [x0, x1, x2, x3] st g mi mr Q = tw_E sc d 174 693 [x0, x1, x2, x3] (.int 1 :: st) g mi mr Q := tw_x_iconst td_174_692 (by decide)
theorem td_174_693 : decode (tw_cd 174) 693 = .ok (.iadd, 1) := by decide +kernel
theorem tz_174_693 : tw_E sc d 174 693 [x0, x1, x2, x3] (.int w :: .int v :: st) g mi mr Q = tw_E sc d 174 694 [x0, x1, x2, x3] (.int (v + w) :: st) g mi mr Q := tw_x_iadd td_174_693
theorem td_174_694 : decode (tw_cd 174) 694 = .ok (.iaload, 1) := by decide +kernel
theorem tz_174_694 : tw_E sc d 174 694 [x0, x1, x2, x3] (.int v :: .retAddr a :: st) g mi mr Q = (vp_in v sc.1 ∧ tw_E sc d 174 695 [x0, x1, x2, x3] (.int (sc.2 v.toNatClampNeg) :: st) g mi mr Q) := tw_x_sald td_174_694
theorem td_174_695 : decode (tw_cd 174) 695 = .ok (.aload_n 0, 1) := by decide +kernel
theorem tz_174_695 : tw_E sc d 174 695 [some (.retAddr a), x1, x2, x3] st g mi mr Q = tw_E sc d 174 696 [some (.retAddr a), x1, x2, x3] (.retAddr a :: st) g mi mr Q := tw_x_aload_nS td_174_695 rfl
theorem td_174_696 : decode (tw_cd 174) 696 = .ok (.iload_n 3, 1) := by decide +kernel
theorem tz_174_696 : tw_E sc d 174 696 [x0, x1, x2, some (.int v)] st g mi mr Q = tw_E sc d 174 697 [x0, x1, x2, some (.int v)] (.int v :: st) g mi mr Q := tw_x_iload_n td_174_696 rfl
theorem td_174_697 : decode (tw_cd 174) 697 = .ok (.iconst 2, 1) := by decide +kernel
theorem tz_174_697 : tw_E sc d 174 697 [x0, x1, x2, x3] st g mi mr Q = tw_E sc d 174 698 [x0, x1, x2, x3] (.int 2 :: st) g mi mr Q := tw_x_iconst td_174_697 (by decide)
theorem td_174_698 : decode (tw_cd 174) 698 = .ok (.iadd, 1) := by decide +kernel
theorem tz_174_698 : tw_E sc d 174 698 [x0, x1, x2, x3] (.int w :: .int v :: st) g mi mr Q = tw_E sc d 174 699 [x0, x1, x2, x3] (.int (v + w) :: st) g mi mr Q := tw_x_iadd td_174_698
theorem td_174_699 : decode (tw_cd 174) 699 = .ok (.iaload, 1) := by decide +kernel
theorem tz_174_699 : tw_E sc d 174 699 [x0, x1, x2, x3] (.int v :: .retAddr a :: st) g mi mr Q = (vp_in v sc.1 ∧ tw_E sc d 174 700 [x0, x1, x2, x3] (.int (sc.2 v.toNatClampNeg) :: st) g mi mr Q) := tw_x_sald td_174_699
theorem td_174_700 : decode (tw_cd 174) 700 = .ok (.aload_n 0, 1) := by decide +kernel
theorem tz_174_700 : tw_E sc d 174 700 [some (.retAddr a), x1, x2, x3] st g mi mr Q = tw_E sc d 174 701 [some (.retAddr a), x1, x2, x3] (.retAddr a :: st) g mi mr Q := tw_x_aload_nS td_174_700 rfl
theorem td_174_701 : decode (tw_cd 174) 701 = .ok (.iload_n 3, 1) := by decide +kernel
theorem tz_174_701 : tw_E sc d 174 701 [x0, x1, x2, some (.int v)] st g mi mr Q = tw_E sc d 174 702 [x0, x1, x2, some (.int v)] (.int v :: st) g mi mr Q := tw_x_iload_n td_174_701 rfl
theorem td_174_702 : decode (tw_cd 174) 702 = .ok (.iconst 3, 1) := by decide +kernel
theorem tz_174_702 : tw_E sc d 174 702 [x0, x1, x2, x3] st g mi mr Q = tw_E sc d 174 703 [x0, x1, x2, x3] (.int 3 :: st) g mi mr Q := tw_x_iconst td_174_702 (by decide)
theorem td_174_703 : decode (tw_cd 174) 703 = .ok (.iadd, 1) := by decide +kernel
theorem tz_174_703 : tw_E sc d 174 703 [x0, x1, x2, x3] (.int w :: .int v :: st) g mi mr Q = tw_E sc d 174 704 [x0, x1, x2, x3] (.int (v + w) :: st) g mi mr Q := tw_x_iadd td_174_703
theorem td_174_704 : decode (tw_cd 174) 704 = .ok (.iaload, 1) := by decide +kernel
theorem tz_174_704 : tw_E sc d 174 704 [x0, x1, x2, x3] (.int v :: .retAddr a :: st) g mi mr Q = (vp_in v sc.1 ∧ tw_E sc d 174 705 [x0, x1, x2, x3] (.int (sc.2 v.toNatClampNeg) :: st) g mi mr Q) := tw_x_sald td_174_704
theorem td_174_705 : decode (tw_cd 174) 705 = .ok (.invokevirtual 103, 3) := by decide +kernel
theorem tz_174_705 {a0 : Int32} {a1 : Int32} {a2 : Int32} : tw_E sc (d + 1) 174 705 [x0, x1, x2, x3] ([.int a2, .int a1, .int a0, .ref a, s1]) g mi mr Q = (tw_kd g a = 10 ∧ tw_E sc d 171 0 [some (.ref a), some (.int a0), some (.int a1), some (.int a2), none, none, none, none] [] g mi mr (tw_K sc (d + 1) 174 708 [x0, x1, x2, x3] [s1] Q)) := tw_x_cv (as := [.int a0, .int a1, .int a2]) (r := [s1]) td_174_705 to_174 tc_11_103 to_171 rfl rfl rfl rfl
theorem td_174_708 : decode (tw_cd 174) 708 = .ok (.if_icmp .eq 123, 3) := by decide +kernel
theorem tz_174_708 : tw_E sc d 174 708 [x0, x1, x2, x3] (.int w :: .int v :: st) g mi mr Q = if v = w then tw_E sc d 174 831 [x0, x1, x2, x3] st g mi mr Q else tw_E sc d 174 711 [x0, x1, x2, x3] st g mi mr Q := tw_x_ic_eq td_174_708 (by decide)
theorem td_174_711 : decode (tw_cd 174) 711 = .ok (.iconst 0, 1) := by decide +kernel
theorem tz_174_711 : tw_E sc d 174 711 [x0, x1, x2, x3] st g mi mr Q = tw_E sc d 174 712 [x0, x1, x2, x3] (.int 0 :: st) g mi mr Q := tw_x_iconst td_174_711 (by decide)
theorem td_174_712 : decode (tw_cd 174) 712 = .ok (.ireturn, 1) := by decide +kernel
theorem tz_174_712 : tw_E sc d 174 712 [x0, x1, x2, x3] ([.int v]) g mi mr Q = ((v = 0 ∨ v = 1) ∧ Q (some (.int v)) g mi mr) := tw_x_zret td_174_712 tr_174
theorem td_174_713 : decode (tw_cd 174) 713 = .ok (.aload_n 1, 1) := by decide +kernel
theorem tz_174_713 : tw_E sc d 174 713 [x0, some (.ref a), x2, x3] st g mi mr Q = tw_E sc d 174 714 [x0, some (.ref a), x2, x3] (.ref a :: st) g mi mr Q := tw_x_aload_n td_174_713 rfl
theorem tz_174_713n : tw_E sc d 174 713 [x0, some .null, x2, x3] st g mi mr Q = tw_E sc d 174 714 [x0, some .null, x2, x3] (.null :: st) g mi mr Q := tw_x_aload_nN td_174_713 rfl
theorem td_174_714 : decode (tw_cd 174) 714 = .ok (.aload_n 0, 1) := by decide +kernel
theorem tz_174_714 : tw_E sc d 174 714 [some (.retAddr a), x1, x2, x3] st g mi mr Q = tw_E sc d 174 715 [some (.retAddr a), x1, x2, x3] (.retAddr a :: st) g mi mr Q := tw_x_aload_nS td_174_714 rfl
theorem td_174_715 : decode (tw_cd 174) 715 = .ok (.iload_n 3, 1) := by decide +kernel
theorem tz_174_715 : tw_E sc d 174 715 [x0, x1, x2, some (.int v)] st g mi mr Q = tw_E sc d 174 716 [x0, x1, x2, some (.int v)] (.int v :: st) g mi mr Q := tw_x_iload_n td_174_715 rfl
theorem td_174_716 : decode (tw_cd 174) 716 = .ok (.iconst 1, 1) := by decide +kernel
theorem tz_174_716 : tw_E sc d 174 716 [x0, x1, x2, x3] st g mi mr Q = tw_E sc d 174 717 [x0, x1, x2, x3] (.int 1 :: st) g mi mr Q := tw_x_iconst td_174_716 (by decide)
theorem td_174_717 : decode (tw_cd 174) 717 = .ok (.iadd, 1) := by decide +kernel
theorem tz_174_717 : tw_E sc d 174 717 [x0, x1, x2, x3] (.int w :: .int v :: st) g mi mr Q = tw_E sc d 174 718 [x0, x1, x2, x3] (.int (v + w) :: st) g mi mr Q := tw_x_iadd td_174_717
theorem td_174_718 : decode (tw_cd 174) 718 = .ok (.iaload, 1) := by decide +kernel
theorem tz_174_718 : tw_E sc d 174 718 [x0, x1, x2, x3] (.int v :: .retAddr a :: st) g mi mr Q = (vp_in v sc.1 ∧ tw_E sc d 174 719 [x0, x1, x2, x3] (.int (sc.2 v.toNatClampNeg) :: st) g mi mr Q) := tw_x_sald td_174_718
theorem td_174_719 : decode (tw_cd 174) 719 = .ok (.aload_n 0, 1) := by decide +kernel
theorem tz_174_719 : tw_E sc d 174 719 [some (.retAddr a), x1, x2, x3] st g mi mr Q = tw_E sc d 174 720 [some (.retAddr a), x1, x2, x3] (.retAddr a :: st) g mi mr Q := tw_x_aload_nS td_174_719 rfl
theorem td_174_720 : decode (tw_cd 174) 720 = .ok (.iload_n 3, 1) := by decide +kernel
theorem tz_174_720 : tw_E sc d 174 720 [x0, x1, x2, some (.int v)] st g mi mr Q = tw_E sc d 174 721 [x0, x1, x2, some (.int v)] (.int v :: st) g mi mr Q := tw_x_iload_n td_174_720 rfl
theorem td_174_721 : decode (tw_cd 174) 721 = .ok (.iconst 2, 1) := by decide +kernel
theorem tz_174_721 : tw_E sc d 174 721 [x0, x1, x2, x3] st g mi mr Q = tw_E sc d 174 722 [x0, x1, x2, x3] (.int 2 :: st) g mi mr Q := tw_x_iconst td_174_721 (by decide)
theorem td_174_722 : decode (tw_cd 174) 722 = .ok (.iadd, 1) := by decide +kernel
theorem tz_174_722 : tw_E sc d 174 722 [x0, x1, x2, x3] (.int w :: .int v :: st) g mi mr Q = tw_E sc d 174 723 [x0, x1, x2, x3] (.int (v + w) :: st) g mi mr Q := tw_x_iadd td_174_722
theorem td_174_723 : decode (tw_cd 174) 723 = .ok (.iaload, 1) := by decide +kernel
theorem tz_174_723 : tw_E sc d 174 723 [x0, x1, x2, x3] (.int v :: .retAddr a :: st) g mi mr Q = (vp_in v sc.1 ∧ tw_E sc d 174 724 [x0, x1, x2, x3] (.int (sc.2 v.toNatClampNeg) :: st) g mi mr Q) := tw_x_sald td_174_723
theorem td_174_724 : decode (tw_cd 174) 724 = .ok (.aload_n 0, 1) := by decide +kernel
theorem tz_174_724 : tw_E sc d 174 724 [some (.retAddr a), x1, x2, x3] st g mi mr Q = tw_E sc d 174 725 [some (.retAddr a), x1, x2, x3] (.retAddr a :: st) g mi mr Q := tw_x_aload_nS td_174_724 rfl
theorem td_174_725 : decode (tw_cd 174) 725 = .ok (.iload_n 3, 1) := by decide +kernel
theorem tz_174_725 : tw_E sc d 174 725 [x0, x1, x2, some (.int v)] st g mi mr Q = tw_E sc d 174 726 [x0, x1, x2, some (.int v)] (.int v :: st) g mi mr Q := tw_x_iload_n td_174_725 rfl
theorem td_174_726 : decode (tw_cd 174) 726 = .ok (.iconst 3, 1) := by decide +kernel
theorem tz_174_726 : tw_E sc d 174 726 [x0, x1, x2, x3] st g mi mr Q = tw_E sc d 174 727 [x0, x1, x2, x3] (.int 3 :: st) g mi mr Q := tw_x_iconst td_174_726 (by decide)
theorem td_174_727 : decode (tw_cd 174) 727 = .ok (.iadd, 1) := by decide +kernel
theorem tz_174_727 : tw_E sc d 174 727 [x0, x1, x2, x3] (.int w :: .int v :: st) g mi mr Q = tw_E sc d 174 728 [x0, x1, x2, x3] (.int (v + w) :: st) g mi mr Q := tw_x_iadd td_174_727
theorem td_174_728 : decode (tw_cd 174) 728 = .ok (.iaload, 1) := by decide +kernel
theorem tz_174_728 : tw_E sc d 174 728 [x0, x1, x2, x3] (.int v :: .retAddr a :: st) g mi mr Q = (vp_in v sc.1 ∧ tw_E sc d 174 729 [x0, x1, x2, x3] (.int (sc.2 v.toNatClampNeg) :: st) g mi mr Q) := tw_x_sald td_174_728
theorem td_174_729 : decode (tw_cd 174) 729 = .ok (.aload_n 0, 1) := by decide +kernel
theorem tz_174_729 : tw_E sc d 174 729 [some (.retAddr a), x1, x2, x3] st g mi mr Q = tw_E sc d 174 730 [some (.retAddr a), x1, x2, x3] (.retAddr a :: st) g mi mr Q := tw_x_aload_nS td_174_729 rfl
theorem td_174_730 : decode (tw_cd 174) 730 = .ok (.iload_n 3, 1) := by decide +kernel
theorem tz_174_730 : tw_E sc d 174 730 [x0, x1, x2, some (.int v)] st g mi mr Q = tw_E sc d 174 731 [x0, x1, x2, some (.int v)] (.int v :: st) g mi mr Q := tw_x_iload_n td_174_730 rfl
theorem td_174_731 : decode (tw_cd 174) 731 = .ok (.iconst 4, 1) := by decide +kernel
theorem tz_174_731 : tw_E sc d 174 731 [x0, x1, x2, x3] st g mi mr Q = tw_E sc d 174 732 [x0, x1, x2, x3] (.int 4 :: st) g mi mr Q := tw_x_iconst td_174_731 (by decide)
theorem td_174_732 : decode (tw_cd 174) 732 = .ok (.iadd, 1) := by decide +kernel
theorem tz_174_732 : tw_E sc d 174 732 [x0, x1, x2, x3] (.int w :: .int v :: st) g mi mr Q = tw_E sc d 174 733 [x0, x1, x2, x3] (.int (v + w) :: st) g mi mr Q := tw_x_iadd td_174_732
theorem td_174_733 : decode (tw_cd 174) 733 = .ok (.iaload, 1) := by decide +kernel
theorem tz_174_733 : tw_E sc d 174 733 [x0, x1, x2, x3] (.int v :: .retAddr a :: st) g mi mr Q = (vp_in v sc.1 ∧ tw_E sc d 174 734 [x0, x1, x2, x3] (.int (sc.2 v.toNatClampNeg) :: st) g mi mr Q) := tw_x_sald td_174_733
theorem td_174_734 : decode (tw_cd 174) 734 = .ok (.ifCond .eq 7, 3) := by decide +kernel
theorem tz_174_734 : tw_E sc d 174 734 [x0, x1, x2, x3] (.int v :: st) g mi mr Q = if v = 0 then tw_E sc d 174 741 [x0, x1, x2, x3] st g mi mr Q else tw_E sc d 174 737 [x0, x1, x2, x3] st g mi mr Q := tw_x_if_eq td_174_734 (by decide)
theorem td_174_737 : decode (tw_cd 174) 737 = .ok (.iconst 1, 1) := by decide +kernel
theorem tz_174_737 : tw_E sc d 174 737 [x0, x1, x2, x3] st g mi mr Q = tw_E sc d 174 738 [x0, x1, x2, x3] (.int 1 :: st) g mi mr Q := tw_x_iconst td_174_737 (by decide)
theorem td_174_738 : decode (tw_cd 174) 738 = .ok (.goto 4, 3) := by decide +kernel
theorem tz_174_738 : tw_E sc d 174 738 [x0, x1, x2, x3] st g mi mr Q = tw_E sc d 174 742 [x0, x1, x2, x3] st g mi mr Q := tw_x_goto td_174_738 (by decide)
theorem td_174_741 : decode (tw_cd 174) 741 = .ok (.iconst 0, 1) := by decide +kernel
theorem tz_174_741 : tw_E sc d 174 741 [x0, x1, x2, x3] st g mi mr Q = tw_E sc d 174 742 [x0, x1, x2, x3] (.int 0 :: st) g mi mr Q := tw_x_iconst td_174_741 (by decide)
theorem td_174_742 : decode (tw_cd 174) 742 = .ok (.aload_n 0, 1) := by decide +kernel
theorem tz_174_742 : tw_E sc d 174 742 [some (.retAddr a), x1, x2, x3] st g mi mr Q = tw_E sc d 174 743 [some (.retAddr a), x1, x2, x3] (.retAddr a :: st) g mi mr Q := tw_x_aload_nS td_174_742 rfl
theorem td_174_743 : decode (tw_cd 174) 743 = .ok (.iload_n 3, 1) := by decide +kernel
theorem tz_174_743 : tw_E sc d 174 743 [x0, x1, x2, some (.int v)] st g mi mr Q = tw_E sc d 174 744 [x0, x1, x2, some (.int v)] (.int v :: st) g mi mr Q := tw_x_iload_n td_174_743 rfl
theorem td_174_744 : decode (tw_cd 174) 744 = .ok (.iconst 5, 1) := by decide +kernel
theorem tz_174_744 : tw_E sc d 174 744 [x0, x1, x2, x3] st g mi mr Q = tw_E sc d 174 745 [x0, x1, x2, x3] (.int 5 :: st) g mi mr Q := tw_x_iconst td_174_744 (by decide)
theorem td_174_745 : decode (tw_cd 174) 745 = .ok (.iadd, 1) := by decide +kernel
theorem tz_174_745 : tw_E sc d 174 745 [x0, x1, x2, x3] (.int w :: .int v :: st) g mi mr Q = tw_E sc d 174 746 [x0, x1, x2, x3] (.int (v + w) :: st) g mi mr Q := tw_x_iadd td_174_745
theorem td_174_746 : decode (tw_cd 174) 746 = .ok (.iaload, 1) := by decide +kernel
theorem tz_174_746 : tw_E sc d 174 746 [x0, x1, x2, x3] (.int v :: .retAddr a :: st) g mi mr Q = (vp_in v sc.1 ∧ tw_E sc d 174 747 [x0, x1, x2, x3] (.int (sc.2 v.toNatClampNeg) :: st) g mi mr Q) := tw_x_sald td_174_746
theorem td_174_747 : decode (tw_cd 174) 747 = .ok (.ifCond .eq 7, 3) := by decide +kernel
theorem tz_174_747 : tw_E sc d 174 747 [x0, x1, x2, x3] (.int v :: st) g mi mr Q = if v = 0 then tw_E sc d 174 754 [x0, x1, x2, x3] st g mi mr Q else tw_E sc d 174 750 [x0, x1, x2, x3] st g mi mr Q := tw_x_if_eq td_174_747 (by decide)
theorem td_174_750 : decode (tw_cd 174) 750 = .ok (.iconst 1, 1) := by decide +kernel
theorem tz_174_750 : tw_E sc d 174 750 [x0, x1, x2, x3] st g mi mr Q = tw_E sc d 174 751 [x0, x1, x2, x3] (.int 1 :: st) g mi mr Q := tw_x_iconst td_174_750 (by decide)
theorem td_174_751 : decode (tw_cd 174) 751 = .ok (.goto 4, 3) := by decide +kernel
theorem tz_174_751 : tw_E sc d 174 751 [x0, x1, x2, x3] st g mi mr Q = tw_E sc d 174 755 [x0, x1, x2, x3] st g mi mr Q := tw_x_goto td_174_751 (by decide)
theorem td_174_754 : decode (tw_cd 174) 754 = .ok (.iconst 0, 1) := by decide +kernel
theorem tz_174_754 : tw_E sc d 174 754 [x0, x1, x2, x3] st g mi mr Q = tw_E sc d 174 755 [x0, x1, x2, x3] (.int 0 :: st) g mi mr Q := tw_x_iconst td_174_754 (by decide)
theorem td_174_755 : decode (tw_cd 174) 755 = .ok (.invokevirtual 104, 3) := by decide +kernel
theorem tz_174_755 {a0 : Int32} {a1 : Int32} {a2 : Int32} {a3 : Int32} {a4 : Int32} : tw_E sc (d + 1) 174 755 [x0, x1, x2, x3] ([.int a4, .int a3, .int a2, .int a1, .int a0, .ref a]) g mi mr Q = (tw_kd g a = 0 ∧ tw_E sc d 22 0 [some (.ref a), some (.int a0), some (.int a1), some (.int a2), some (.int a3), some (.int a4), none, none, none, none, none, none, none] [] g mi mr (tw_K sc (d + 1) 174 758 [x0, x1, x2, x3] [] Q)) := tw_x_cv (as := [.int a0, .int a1, .int a2, .int a3, .int a4]) (r := []) td_174_755 to_174 tc_11_104 to_22 rfl rfl rfl rfl
theorem td_174_758 : decode (tw_cd 174) 758 = .ok (.aload_n 2, 1) := by decide +kernel
theorem tz_174_758 : tw_E sc d 174 758 [x0, x1, some (.ref a), x3] st g mi mr Q = tw_E sc d 174 759 [x0, x1, some (.ref a), x3] (.ref a :: st) g mi mr Q := tw_x_aload_n td_174_758 rfl
theorem tz_174_758n : tw_E sc d 174 758 [x0, x1, some .null, x3] st g mi mr Q = tw_E sc d 174 759 [x0, x1, some .null, x3] (.null :: st) g mi mr Q := tw_x_aload_nN td_174_758 rfl
theorem td_174_759 : decode (tw_cd 174) 759 = .ok (.aload_n 0, 1) := by decide +kernel
theorem tz_174_759 : tw_E sc d 174 759 [some (.retAddr a), x1, x2, x3] st g mi mr Q = tw_E sc d 174 760 [some (.retAddr a), x1, x2, x3] (.retAddr a :: st) g mi mr Q := tw_x_aload_nS td_174_759 rfl
theorem td_174_760 : decode (tw_cd 174) 760 = .ok (.iload_n 3, 1) := by decide +kernel
theorem tz_174_760 : tw_E sc d 174 760 [x0, x1, x2, some (.int v)] st g mi mr Q = tw_E sc d 174 761 [x0, x1, x2, some (.int v)] (.int v :: st) g mi mr Q := tw_x_iload_n td_174_760 rfl
theorem td_174_761 : decode (tw_cd 174) 761 = .ok (.iconst 1, 1) := by decide +kernel
theorem tz_174_761 : tw_E sc d 174 761 [x0, x1, x2, x3] st g mi mr Q = tw_E sc d 174 762 [x0, x1, x2, x3] (.int 1 :: st) g mi mr Q := tw_x_iconst td_174_761 (by decide)
theorem td_174_762 : decode (tw_cd 174) 762 = .ok (.iadd, 1) := by decide +kernel
theorem tz_174_762 : tw_E sc d 174 762 [x0, x1, x2, x3] (.int w :: .int v :: st) g mi mr Q = tw_E sc d 174 763 [x0, x1, x2, x3] (.int (v + w) :: st) g mi mr Q := tw_x_iadd td_174_762
theorem td_174_763 : decode (tw_cd 174) 763 = .ok (.iaload, 1) := by decide +kernel
theorem tz_174_763 : tw_E sc d 174 763 [x0, x1, x2, x3] (.int v :: .retAddr a :: st) g mi mr Q = (vp_in v sc.1 ∧ tw_E sc d 174 764 [x0, x1, x2, x3] (.int (sc.2 v.toNatClampNeg) :: st) g mi mr Q) := tw_x_sald td_174_763
theorem td_174_764 : decode (tw_cd 174) 764 = .ok (.aload_n 0, 1) := by decide +kernel
theorem tz_174_764 : tw_E sc d 174 764 [some (.retAddr a), x1, x2, x3] st g mi mr Q = tw_E sc d 174 765 [some (.retAddr a), x1, x2, x3] (.retAddr a :: st) g mi mr Q := tw_x_aload_nS td_174_764 rfl
theorem td_174_765 : decode (tw_cd 174) 765 = .ok (.iload_n 3, 1) := by decide +kernel
theorem tz_174_765 : tw_E sc d 174 765 [x0, x1, x2, some (.int v)] st g mi mr Q = tw_E sc d 174 766 [x0, x1, x2, some (.int v)] (.int v :: st) g mi mr Q := tw_x_iload_n td_174_765 rfl
theorem td_174_766 : decode (tw_cd 174) 766 = .ok (.iconst 2, 1) := by decide +kernel
theorem tz_174_766 : tw_E sc d 174 766 [x0, x1, x2, x3] st g mi mr Q = tw_E sc d 174 767 [x0, x1, x2, x3] (.int 2 :: st) g mi mr Q := tw_x_iconst td_174_766 (by decide)
theorem td_174_767 : decode (tw_cd 174) 767 = .ok (.iadd, 1) := by decide +kernel
theorem tz_174_767 : tw_E sc d 174 767 [x0, x1, x2, x3] (.int w :: .int v :: st) g mi mr Q = tw_E sc d 174 768 [x0, x1, x2, x3] (.int (v + w) :: st) g mi mr Q := tw_x_iadd td_174_767
theorem td_174_768 : decode (tw_cd 174) 768 = .ok (.iaload, 1) := by decide +kernel
theorem tz_174_768 : tw_E sc d 174 768 [x0, x1, x2, x3] (.int v :: .retAddr a :: st) g mi mr Q = (vp_in v sc.1 ∧ tw_E sc d 174 769 [x0, x1, x2, x3] (.int (sc.2 v.toNatClampNeg) :: st) g mi mr Q) := tw_x_sald td_174_768
theorem td_174_769 : decode (tw_cd 174) 769 = .ok (.aload_n 0, 1) := by decide +kernel
theorem tz_174_769 : tw_E sc d 174 769 [some (.retAddr a), x1, x2, x3] st g mi mr Q = tw_E sc d 174 770 [some (.retAddr a), x1, x2, x3] (.retAddr a :: st) g mi mr Q := tw_x_aload_nS td_174_769 rfl
theorem td_174_770 : decode (tw_cd 174) 770 = .ok (.iload_n 3, 1) := by decide +kernel
theorem tz_174_770 : tw_E sc d 174 770 [x0, x1, x2, some (.int v)] st g mi mr Q = tw_E sc d 174 771 [x0, x1, x2, some (.int v)] (.int v :: st) g mi mr Q := tw_x_iload_n td_174_770 rfl
theorem td_174_771 : decode (tw_cd 174) 771 = .ok (.iconst 3, 1) := by decide +kernel
theorem tz_174_771 : tw_E sc d 174 771 [x0, x1, x2, x3] st g mi mr Q = tw_E sc d 174 772 [x0, x1, x2, x3] (.int 3 :: st) g mi mr Q := tw_x_iconst td_174_771 (by decide)
theorem td_174_772 : decode (tw_cd 174) 772 = .ok (.iadd, 1) := by decide +kernel
theorem tz_174_772 : tw_E sc d 174 772 [x0, x1, x2, x3] (.int w :: .int v :: st) g mi mr Q = tw_E sc d 174 773 [x0, x1, x2, x3] (.int (v + w) :: st) g mi mr Q := tw_x_iadd td_174_772
theorem td_174_773 : decode (tw_cd 174) 773 = .ok (.iaload, 1) := by decide +kernel
theorem tz_174_773 : tw_E sc d 174 773 [x0, x1, x2, x3] (.int v :: .retAddr a :: st) g mi mr Q = (vp_in v sc.1 ∧ tw_E sc d 174 774 [x0, x1, x2, x3] (.int (sc.2 v.toNatClampNeg) :: st) g mi mr Q) := tw_x_sald td_174_773
theorem td_174_774 : decode (tw_cd 174) 774 = .ok (.aload_n 0, 1) := by decide +kernel
theorem tz_174_774 : tw_E sc d 174 774 [some (.retAddr a), x1, x2, x3] st g mi mr Q = tw_E sc d 174 775 [some (.retAddr a), x1, x2, x3] (.retAddr a :: st) g mi mr Q := tw_x_aload_nS td_174_774 rfl
theorem td_174_775 : decode (tw_cd 174) 775 = .ok (.iload_n 3, 1) := by decide +kernel
theorem tz_174_775 : tw_E sc d 174 775 [x0, x1, x2, some (.int v)] st g mi mr Q = tw_E sc d 174 776 [x0, x1, x2, some (.int v)] (.int v :: st) g mi mr Q := tw_x_iload_n td_174_775 rfl
theorem td_174_776 : decode (tw_cd 174) 776 = .ok (.iconst 4, 1) := by decide +kernel
theorem tz_174_776 : tw_E sc d 174 776 [x0, x1, x2, x3] st g mi mr Q = tw_E sc d 174 777 [x0, x1, x2, x3] (.int 4 :: st) g mi mr Q := tw_x_iconst td_174_776 (by decide)
theorem td_174_777 : decode (tw_cd 174) 777 = .ok (.iadd, 1) := by decide +kernel
theorem tz_174_777 : tw_E sc d 174 777 [x0, x1, x2, x3] (.int w :: .int v :: st) g mi mr Q = tw_E sc d 174 778 [x0, x1, x2, x3] (.int (v + w) :: st) g mi mr Q := tw_x_iadd td_174_777
theorem td_174_778 : decode (tw_cd 174) 778 = .ok (.iaload, 1) := by decide +kernel
theorem tz_174_778 : tw_E sc d 174 778 [x0, x1, x2, x3] (.int v :: .retAddr a :: st) g mi mr Q = (vp_in v sc.1 ∧ tw_E sc d 174 779 [x0, x1, x2, x3] (.int (sc.2 v.toNatClampNeg) :: st) g mi mr Q) := tw_x_sald td_174_778
theorem td_174_779 : decode (tw_cd 174) 779 = .ok (.ifCond .eq 7, 3) := by decide +kernel
theorem tz_174_779 : tw_E sc d 174 779 [x0, x1, x2, x3] (.int v :: st) g mi mr Q = if v = 0 then tw_E sc d 174 786 [x0, x1, x2, x3] st g mi mr Q else tw_E sc d 174 782 [x0, x1, x2, x3] st g mi mr Q := tw_x_if_eq td_174_779 (by decide)
theorem td_174_782 : decode (tw_cd 174) 782 = .ok (.iconst 1, 1) := by decide +kernel
theorem tz_174_782 : tw_E sc d 174 782 [x0, x1, x2, x3] st g mi mr Q = tw_E sc d 174 783 [x0, x1, x2, x3] (.int 1 :: st) g mi mr Q := tw_x_iconst td_174_782 (by decide)
theorem td_174_783 : decode (tw_cd 174) 783 = .ok (.goto 4, 3) := by decide +kernel
theorem tz_174_783 : tw_E sc d 174 783 [x0, x1, x2, x3] st g mi mr Q = tw_E sc d 174 787 [x0, x1, x2, x3] st g mi mr Q := tw_x_goto td_174_783 (by decide)
theorem td_174_786 : decode (tw_cd 174) 786 = .ok (.iconst 0, 1) := by decide +kernel
theorem tz_174_786 : tw_E sc d 174 786 [x0, x1, x2, x3] st g mi mr Q = tw_E sc d 174 787 [x0, x1, x2, x3] (.int 0 :: st) g mi mr Q := tw_x_iconst td_174_786 (by decide)
theorem td_174_787 : decode (tw_cd 174) 787 = .ok (.aload_n 0, 1) := by decide +kernel
theorem tz_174_787 : tw_E sc d 174 787 [some (.retAddr a), x1, x2, x3] st g mi mr Q = tw_E sc d 174 788 [some (.retAddr a), x1, x2, x3] (.retAddr a :: st) g mi mr Q := tw_x_aload_nS td_174_787 rfl
theorem td_174_788 : decode (tw_cd 174) 788 = .ok (.iload_n 3, 1) := by decide +kernel
theorem tz_174_788 : tw_E sc d 174 788 [x0, x1, x2, some (.int v)] st g mi mr Q = tw_E sc d 174 789 [x0, x1, x2, some (.int v)] (.int v :: st) g mi mr Q := tw_x_iload_n td_174_788 rfl
theorem td_174_789 : decode (tw_cd 174) 789 = .ok (.iconst 5, 1) := by decide +kernel
theorem tz_174_789 : tw_E sc d 174 789 [x0, x1, x2, x3] st g mi mr Q = tw_E sc d 174 790 [x0, x1, x2, x3] (.int 5 :: st) g mi mr Q := tw_x_iconst td_174_789 (by decide)
theorem td_174_790 : decode (tw_cd 174) 790 = .ok (.iadd, 1) := by decide +kernel
theorem tz_174_790 : tw_E sc d 174 790 [x0, x1, x2, x3] (.int w :: .int v :: st) g mi mr Q = tw_E sc d 174 791 [x0, x1, x2, x3] (.int (v + w) :: st) g mi mr Q := tw_x_iadd td_174_790
theorem td_174_791 : decode (tw_cd 174) 791 = .ok (.iaload, 1) := by decide +kernel
theorem tz_174_791 : tw_E sc d 174 791 [x0, x1, x2, x3] (.int v :: .retAddr a :: st) g mi mr Q = (vp_in v sc.1 ∧ tw_E sc d 174 792 [x0, x1, x2, x3] (.int (sc.2 v.toNatClampNeg) :: st) g mi mr Q) := tw_x_sald td_174_791
theorem td_174_792 : decode (tw_cd 174) 792 = .ok (.ifCond .eq 7, 3) := by decide +kernel
theorem tz_174_792 : tw_E sc d 174 792 [x0, x1, x2, x3] (.int v :: st) g mi mr Q = if v = 0 then tw_E sc d 174 799 [x0, x1, x2, x3] st g mi mr Q else tw_E sc d 174 795 [x0, x1, x2, x3] st g mi mr Q := tw_x_if_eq td_174_792 (by decide)
theorem td_174_795 : decode (tw_cd 174) 795 = .ok (.iconst 1, 1) := by decide +kernel
theorem tz_174_795 : tw_E sc d 174 795 [x0, x1, x2, x3] st g mi mr Q = tw_E sc d 174 796 [x0, x1, x2, x3] (.int 1 :: st) g mi mr Q := tw_x_iconst td_174_795 (by decide)
theorem td_174_796 : decode (tw_cd 174) 796 = .ok (.goto 4, 3) := by decide +kernel
theorem tz_174_796 : tw_E sc d 174 796 [x0, x1, x2, x3] st g mi mr Q = tw_E sc d 174 800 [x0, x1, x2, x3] st g mi mr Q := tw_x_goto td_174_796 (by decide)
theorem td_174_799 : decode (tw_cd 174) 799 = .ok (.iconst 0, 1) := by decide +kernel
theorem tz_174_799 : tw_E sc d 174 799 [x0, x1, x2, x3] st g mi mr Q = tw_E sc d 174 800 [x0, x1, x2, x3] (.int 0 :: st) g mi mr Q := tw_x_iconst td_174_799 (by decide)
theorem td_174_800 : decode (tw_cd 174) 800 = .ok (.invokevirtual 108, 3) := by decide +kernel
theorem tz_174_800 {a0 : Int32} {a1 : Int32} {a2 : Int32} {a3 : Int32} {a4 : Int32} : tw_E sc (d + 1) 174 800 [x0, x1, x2, x3] ([.int a4, .int a3, .int a2, .int a1, .int a0, .ref a, s1]) g mi mr Q = (tw_kd g a = 10 ∧ tw_E sc d 172 0 [some (.ref a), some (.int a0), some (.int a1), some (.int a2), some (.int a3), some (.int a4), none, none, none, none, none, none] [] g mi mr (tw_K sc (d + 1) 174 803 [x0, x1, x2, x3] [s1] Q)) := tw_x_cv (as := [.int a0, .int a1, .int a2, .int a3, .int a4]) (r := [s1]) td_174_800 to_174 tc_11_108 to_172 rfl rfl rfl rfl
theorem td_174_803 : decode (tw_cd 174) 803 = .ok (.if_icmp .eq 28, 3) := by decide +kernel
theorem tz_174_803 : tw_E sc d 174 803 [x0, x1, x2, x3] (.int w :: .int v :: st) g mi mr Q = if v = w then tw_E sc d 174 831 [x0, x1, x2, x3] st g mi mr Q else tw_E sc d 174 806 [x0, x1, x2, x3] st g mi mr Q := tw_x_ic_eq td_174_803 (by decide)
theorem td_174_806 : decode (tw_cd 174) 806 = .ok (.iconst 0, 1) := by decide +kernel
theorem tz_174_806 : tw_E sc d 174 806 [x0, x1, x2, x3] st g mi mr Q = tw_E sc d 174 807 [x0, x1, x2, x3] (.int 0 :: st) g mi mr Q := tw_x_iconst td_174_806 (by decide)
theorem td_174_807 : decode (tw_cd 174) 807 = .ok (.ireturn, 1) := by decide +kernel
theorem tz_174_807 : tw_E sc d 174 807 [x0, x1, x2, x3] ([.int v]) g mi mr Q = ((v = 0 ∨ v = 1) ∧ Q (some (.int v)) g mi mr) := tw_x_zret td_174_807 tr_174
theorem td_174_808 : decode (tw_cd 174) 808 = .ok (.aload_n 1, 1) := by decide +kernel
theorem tz_174_808 : tw_E sc d 174 808 [x0, some (.ref a), x2, x3] st g mi mr Q = tw_E sc d 174 809 [x0, some (.ref a), x2, x3] (.ref a :: st) g mi mr Q := tw_x_aload_n td_174_808 rfl
theorem tz_174_808n : tw_E sc d 174 808 [x0, some .null, x2, x3] st g mi mr Q = tw_E sc d 174 809 [x0, some .null, x2, x3] (.null :: st) g mi mr Q := tw_x_aload_nN td_174_808 rfl
theorem td_174_809 : decode (tw_cd 174) 809 = .ok (.aload_n 0, 1) := by decide +kernel
theorem tz_174_809 : tw_E sc d 174 809 [some (.retAddr a), x1, x2, x3] st g mi mr Q = tw_E sc d 174 810 [some (.retAddr a), x1, x2, x3] (.retAddr a :: st) g mi mr Q := tw_x_aload_nS td_174_809 rfl
theorem td_174_810 : decode (tw_cd 174) 810 = .ok (.iload_n 3, 1) := by decide +kernel
theorem tz_174_810 : tw_E sc d 174 810 [x0, x1, x2, some (.int v)] st g mi mr Q = tw_E sc d 174 811 [x0, x1, x2, some (.int v)] (.int v :: st) g mi mr Q := tw_x_iload_n td_174_810 rfl
theorem td_174_811 : decode (tw_cd 174) 811 = .ok (.iconst 1, 1) := by decide +kernel
theorem tz_174_811 : tw_E sc d 174 811 [x0, x1, x2, x3] st g mi mr Q = tw_E sc d 174 812 [x0, x1, x2, x3] (.int 1 :: st) g mi mr Q := tw_x_iconst td_174_811 (by decide)
theorem td_174_812 : decode (tw_cd 174) 812 = .ok (.iadd, 1) := by decide +kernel
theorem tz_174_812 : tw_E sc d 174 812 [x0, x1, x2, x3] (.int w :: .int v :: st) g mi mr Q = tw_E sc d 174 813 [x0, x1, x2, x3] (.int (v + w) :: st) g mi mr Q := tw_x_iadd td_174_812
theorem td_174_813 : decode (tw_cd 174) 813 = .ok (.iaload, 1) := by decide +kernel
theorem tz_174_813 : tw_E sc d 174 813 [x0, x1, x2, x3] (.int v :: .retAddr a :: st) g mi mr Q = (vp_in v sc.1 ∧ tw_E sc d 174 814 [x0, x1, x2, x3] (.int (sc.2 v.toNatClampNeg) :: st) g mi mr Q) := tw_x_sald td_174_813
theorem td_174_814 : decode (tw_cd 174) 814 = .ok (.invokevirtual 109, 3) := by decide +kernel
theorem tz_174_814 {a0 : Int32} : tw_E sc (d + 1) 174 814 [x0, x1, x2, x3] ([.int a0, .ref a]) g mi mr Q = (tw_kd g a = 0 ∧ tw_E sc d 23 0 [some (.ref a), some (.int a0)] [] g mi mr (tw_K sc (d + 1) 174 817 [x0, x1, x2, x3] [] Q)) := tw_x_cv (as := [.int a0]) (r := []) td_174_814 to_174 tc_11_109 to_23 rfl rfl rfl rfl
theorem td_174_817 : decode (tw_cd 174) 817 = .ok (.aload_n 2, 1) := by decide +kernel
theorem tz_174_817 : tw_E sc d 174 817 [x0, x1, some (.ref a), x3] st g mi mr Q = tw_E sc d 174 818 [x0, x1, some (.ref a), x3] (.ref a :: st) g mi mr Q := tw_x_aload_n td_174_817 rfl
theorem tz_174_817n : tw_E sc d 174 817 [x0, x1, some .null, x3] st g mi mr Q = tw_E sc d 174 818 [x0, x1, some .null, x3] (.null :: st) g mi mr Q := tw_x_aload_nN td_174_817 rfl
theorem td_174_818 : decode (tw_cd 174) 818 = .ok (.aload_n 0, 1) := by decide +kernel
theorem tz_174_818 : tw_E sc d 174 818 [some (.retAddr a), x1, x2, x3] st g mi mr Q = tw_E sc d 174 819 [some (.retAddr a), x1, x2, x3] (.retAddr a :: st) g mi mr Q := tw_x_aload_nS td_174_818 rfl
theorem td_174_819 : decode (tw_cd 174) 819 = .ok (.iload_n 3, 1) := by decide +kernel
theorem tz_174_819 : tw_E sc d 174 819 [x0, x1, x2, some (.int v)] st g mi mr Q = tw_E sc d 174 820 [x0, x1, x2, some (.int v)] (.int v :: st) g mi mr Q := tw_x_iload_n td_174_819 rfl
theorem td_174_820 : decode (tw_cd 174) 820 = .ok (.iconst 1, 1) := by decide +kernel
theorem tz_174_820 : tw_E sc d 174 820 [x0, x1, x2, x3] st g mi mr Q = tw_E sc d 174 821 [x0, x1, x2, x3] (.int 1 :: st) g mi mr Q := tw_x_iconst td_174_820 (by decide)
theorem td_174_821 : decode (tw_cd 174) 821 = .ok (.iadd, 1) := by decide +kernel
theorem tz_174_821 : tw_E sc d 174 821 [x0, x1, x2, x3] (.int w :: .int v :: st) g mi mr Q = tw_E sc d 174 822 [x0, x1, x2, x3] (.int (v + w) :: st) g mi mr Q := tw_x_iadd td_174_821
theorem td_174_822 : decode (tw_cd 174) 822 = .ok (.iaload, 1) := by decide +kernel
theorem tz_174_822 : tw_E sc d 174 822 [x0, x1, x2, x3] (.int v :: .retAddr a :: st) g mi mr Q = (vp_in v sc.1 ∧ tw_E sc d 174 823 [x0, x1, x2, x3] (.int (sc.2 v.toNatClampNeg) :: st) g mi mr Q) := tw_x_sald td_174_822
theorem td_174_823 : decode (tw_cd 174) 823 = .ok (.invokevirtual 112, 3) := by decide +kernel
theorem tz_174_823 {a0 : Int32} : tw_E sc (d + 1) 174 823 [x0, x1, x2, x3] ([.int a0, .ref a, s1]) g mi mr Q = (tw_kd g a = 10 ∧ tw_E sc d 173 0 [some (.ref a), some (.int a0), none, none] [] g mi mr (tw_K sc (d + 1) 174 826 [x0, x1, x2, x3] [s1] Q)) := tw_x_cv (as := [.int a0]) (r := [s1]) td_174_823 to_174 tc_11_112 to_173 rfl rfl rfl rfl
theorem td_174_826 : decode (tw_cd 174) 826 = .ok (.if_icmp .eq 5, 3) := by decide +kernel
theorem tz_174_826 : tw_E sc d 174 826 [x0, x1, x2, x3] (.int w :: .int v :: st) g mi mr Q = if v = w then tw_E sc d 174 831 [x0, x1, x2, x3] st g mi mr Q else tw_E sc d 174 829 [x0, x1, x2, x3] st g mi mr Q := tw_x_ic_eq td_174_826 (by decide)
theorem td_174_829 : decode (tw_cd 174) 829 = .ok (.iconst 0, 1) := by decide +kernel
theorem tz_174_829 : tw_E sc d 174 829 [x0, x1, x2, x3] st g mi mr Q = tw_E sc d 174 830 [x0, x1, x2, x3] (.int 0 :: st) g mi mr Q := tw_x_iconst td_174_829 (by decide)
theorem td_174_830 : decode (tw_cd 174) 830 = .ok (.ireturn, 1) := by decide +kernel
theorem tz_174_830 : tw_E sc d 174 830 [x0, x1, x2, x3] ([.int v]) g mi mr Q = ((v = 0 ∨ v = 1) ∧ Q (some (.int v)) g mi mr) := tw_x_zret td_174_830 tr_174
theorem td_174_831 : decode (tw_cd 174) 831 = .ok (.iinc 3 6, 3) := by decide +kernel
theorem tz_174_831 : tw_E sc d 174 831 [x0, x1, x2, some (.int v)] st g mi mr Q = tw_E sc d 174 834 [x0, x1, x2, some (.int (v + 6))] st g mi mr Q := tw_x_iinc td_174_831 rfl (by first | rfl | (exact congrArg (v + ·) (by decide))) tp_174 rfl
theorem td_174_834 : decode (tw_cd 174) 834 = .ok (.goto (-816), 3) := by decide +kernel
theorem tz_174_834 : tw_E sc d 174 834 [x0, x1, x2, x3] st g mi mr Q = tw_E sc d 174 18 [x0, x1, x2, x3] st g mi mr Q := tw_x_goto td_174_834 (by decide)
theorem td_174_837 : decode (tw_cd 174) 837 = .ok (.iconst 1, 1) := by decide +kernel
theorem tz_174_837 : tw_E sc d 174 837 [x0, x1, x2, x3] st g mi mr Q = tw_E sc d 174 838 [x0, x1, x2, x3] (.int 1 :: st) g mi mr Q := tw_x_iconst td_174_837 (by decide)
theorem td_174_838 : decode (tw_cd 174) 838 = .ok (.ireturn, 1) := by decide +kernel
theorem tz_174_838 : tw_E sc d 174 838 [x0, x1, x2, x3] ([.int v]) g mi mr Q = ((v = 0 ∨ v = 1) ∧ Q (some (.int v)) g mi mr) := tw_x_zret td_174_838 tr_174
end tz_174
