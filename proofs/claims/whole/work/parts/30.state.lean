/-! the cells once both objects are made: printed by wip/whole/gen4.py -/
def tw_gl : List (Nat × Nat) := [(0, 0), (1, 0), (22, 60), (2, 0), (2, 0), (2, 0), (2, 0), (2, 0), (2, 0), (2, 0), (2, 0), (2, 0), (2, 0), (2, 0), (2, 0), (2, 0), (2, 0), (2, 0), (2, 0), (2, 0), (2, 0), (2, 0), (2, 0), (2, 0), (2, 0), (2, 0), (2, 0), (2, 0), (2, 0), (2, 0), (2, 0), (2, 0), (2, 0), (2, 0), (2, 0), (2, 0), (2, 0), (2, 0), (2, 0), (2, 0), (2, 0), (2, 0), (2, 0), (2, 0), (2, 0), (2, 0), (2, 0), (2, 0), (2, 0), (2, 0), (2, 0), (2, 0), (2, 0), (2, 0), (2, 0), (2, 0), (2, 0), (2, 0), (2, 0), (2, 0), (2, 0), (2, 0), (2, 0), (1, 0), (22, 60), (2, 0), (2, 0), (2, 0), (2, 0), (2, 0), (2, 0), (2, 0), (2, 0), (2, 0), (2, 0), (2, 0), (2, 0), (2, 0), (2, 0), (2, 0), (2, 0), (2, 0), (2, 0), (2, 0), (2, 0), (2, 0), (2, 0), (2, 0), (2, 0), (2, 0), (2, 0), (2, 0), (2, 0), (2, 0), (2, 0), (2, 0), (2, 0), (2, 0), (2, 0), (2, 0), (2, 0), (2, 0), (2, 0), (2, 0), (2, 0), (2, 0), (2, 0), (2, 0), (2, 0), (2, 0), (2, 0), (2, 0), (2, 0), (2, 0), (2, 0), (2, 0), (2, 0), (2, 0), (2, 0), (2, 0), (2, 0), (2, 0), (2, 0), (2, 0), (2, 0), (3, 0), (20, 60), (4, 0), (5, 0), (20, 4000), (21, 4000), (6, 0), (20, 1001), (7, 0), (20, 400), (20, 400), (20, 400), (8, 0), (9, 0), (10, 0), (20, 60), (20, 64), (20, 64), (20, 64), (20, 64), (20, 64), (20, 64), (20, 64), (20, 64), (20, 64), (20, 64), (21, 64), (20, 64), (20, 64), (20, 4000), (21, 4000), (20, 1001), (20, 400), (20, 400), (20, 400), (20, 64), (20, 64), (20, 64), (20, 64)]
def tw_g0 : tw_G := (164, 22772, fun a => tw_gl.getD a (99, 0))
/-- t: the trigger, s: the spare one, i: the one that was read into last -/
def tw_r0 (t s i : Nat) : tw_Q := fun a k => if a = 0 ∧ k = 7 then some t else if a = 0 ∧ k = 8 then some s else if a = 127 ∧ k = 1 then some i else if a = 2 ∧ k < 60 then some (3 + k) else if a = 64 ∧ k < 60 then some (65 + k) else
  (([(0, 0, 125), (0, 1, 127), (0, 2, 128), (0, 3, 131), (0, 4, 133), (0, 5, 137), (0, 6, 138), (1, 0, 2), (63, 0, 64), (125, 0, 126), (127, 0, 125), (128, 0, 129), (128, 1, 130), (131, 0, 132), (133, 0, 134), (133, 1, 135), (133, 2, 136), (137, 0, 128), (137, 1, 133), (138, 0, 128), (138, 1, 133), (139, 1, 140), (139, 6, 141), (139, 7, 142), (139, 8, 143), (139, 9, 144), (139, 10, 145), (139, 12, 146), (139, 13, 147), (139, 14, 148), (139, 15, 149), (139, 16, 150), (139, 17, 151), (139, 18, 152), (139, 19, 153), (139, 21, 154), (139, 22, 155), (139, 24, 156), (139, 26, 157), (139, 27, 158), (139, 28, 159), (139, 34, 160), (139, 35, 161), (139, 36, 162), (139, 37, 163)] : List (Nat × Nat × Nat)).find? (fun q => q.1 == a && q.2.1 == k)).map (fun q => q.2.2)
theorem tk_0 : tw_kd tw_g0 0 = 0 := rfl
theorem tk_1 : tw_kd tw_g0 1 = 1 := rfl
theorem tk_2 : tw_kd tw_g0 2 = 22 := rfl
theorem tj_2 : tw_ln tw_g0 2 = 60 := rfl
theorem tk_63 : tw_kd tw_g0 63 = 1 := rfl
theorem tk_64 : tw_kd tw_g0 64 = 22 := rfl
theorem tj_64 : tw_ln tw_g0 64 = 60 := rfl
theorem tk_125 : tw_kd tw_g0 125 = 3 := rfl
theorem tk_126 : tw_kd tw_g0 126 = 20 := rfl
theorem tj_126 : tw_ln tw_g0 126 = 60 := rfl
theorem tk_127 : tw_kd tw_g0 127 = 4 := rfl
theorem tk_128 : tw_kd tw_g0 128 = 5 := rfl
theorem tk_129 : tw_kd tw_g0 129 = 20 := rfl
theorem tj_129 : tw_ln tw_g0 129 = 4000 := rfl
theorem tk_130 : tw_kd tw_g0 130 = 21 := rfl
theorem tj_130 : tw_ln tw_g0 130 = 4000 := rfl
theorem tk_131 : tw_kd tw_g0 131 = 6 := rfl
theorem tk_132 : tw_kd tw_g0 132 = 20 := rfl
theorem tj_132 : tw_ln tw_g0 132 = 1001 := rfl
theorem tk_133 : tw_kd tw_g0 133 = 7 := rfl
theorem tk_134 : tw_kd tw_g0 134 = 20 := rfl
theorem tj_134 : tw_ln tw_g0 134 = 400 := rfl
theorem tk_135 : tw_kd tw_g0 135 = 20 := rfl
theorem tj_135 : tw_ln tw_g0 135 = 400 := rfl
theorem tk_136 : tw_kd tw_g0 136 = 20 := rfl
theorem tj_136 : tw_ln tw_g0 136 = 400 := rfl
theorem tk_137 : tw_kd tw_g0 137 = 8 := rfl
theorem tk_138 : tw_kd tw_g0 138 = 9 := rfl
theorem tk_139 : tw_kd tw_g0 139 = 10 := rfl
theorem tk_140 : tw_kd tw_g0 140 = 20 := rfl
theorem tj_140 : tw_ln tw_g0 140 = 60 := rfl
theorem tk_141 : tw_kd tw_g0 141 = 20 := rfl
theorem tj_141 : tw_ln tw_g0 141 = 64 := rfl
theorem tk_142 : tw_kd tw_g0 142 = 20 := rfl
theorem tj_142 : tw_ln tw_g0 142 = 64 := rfl
theorem tk_143 : tw_kd tw_g0 143 = 20 := rfl
theorem tj_143 : tw_ln tw_g0 143 = 64 := rfl
theorem tk_144 : tw_kd tw_g0 144 = 20 := rfl
theorem tj_144 : tw_ln tw_g0 144 = 64 := rfl
theorem tk_145 : tw_kd tw_g0 145 = 20 := rfl
theorem tj_145 : tw_ln tw_g0 145 = 64 := rfl
theorem tk_146 : tw_kd tw_g0 146 = 20 := rfl
theorem tj_146 : tw_ln tw_g0 146 = 64 := rfl
theorem tk_147 : tw_kd tw_g0 147 = 20 := rfl
theorem tj_147 : tw_ln tw_g0 147 = 64 := rfl
theorem tk_148 : tw_kd tw_g0 148 = 20 := rfl
theorem tj_148 : tw_ln tw_g0 148 = 64 := rfl
theorem tk_149 : tw_kd tw_g0 149 = 20 := rfl
theorem tj_149 : tw_ln tw_g0 149 = 64 := rfl
theorem tk_150 : tw_kd tw_g0 150 = 20 := rfl
theorem tj_150 : tw_ln tw_g0 150 = 64 := rfl
theorem tk_151 : tw_kd tw_g0 151 = 21 := rfl
theorem tj_151 : tw_ln tw_g0 151 = 64 := rfl
theorem tk_152 : tw_kd tw_g0 152 = 20 := rfl
theorem tj_152 : tw_ln tw_g0 152 = 64 := rfl
theorem tk_153 : tw_kd tw_g0 153 = 20 := rfl
theorem tj_153 : tw_ln tw_g0 153 = 64 := rfl
theorem tk_154 : tw_kd tw_g0 154 = 20 := rfl
theorem tj_154 : tw_ln tw_g0 154 = 4000 := rfl
theorem tk_155 : tw_kd tw_g0 155 = 21 := rfl
theorem tj_155 : tw_ln tw_g0 155 = 4000 := rfl
theorem tk_156 : tw_kd tw_g0 156 = 20 := rfl
theorem tj_156 : tw_ln tw_g0 156 = 1001 := rfl
theorem tk_157 : tw_kd tw_g0 157 = 20 := rfl
theorem tj_157 : tw_ln tw_g0 157 = 400 := rfl
theorem tk_158 : tw_kd tw_g0 158 = 20 := rfl
theorem tj_158 : tw_ln tw_g0 158 = 400 := rfl
theorem tk_159 : tw_kd tw_g0 159 = 20 := rfl
theorem tj_159 : tw_ln tw_g0 159 = 400 := rfl
theorem tk_160 : tw_kd tw_g0 160 = 20 := rfl
theorem tj_160 : tw_ln tw_g0 160 = 64 := rfl
theorem tk_161 : tw_kd tw_g0 161 = 20 := rfl
theorem tj_161 : tw_ln tw_g0 161 = 64 := rfl
theorem tk_162 : tw_kd tw_g0 162 = 20 := rfl
theorem tj_162 : tw_ln tw_g0 162 = 64 := rfl
theorem tk_163 : tw_kd tw_g0 163 = 20 := rfl
theorem tj_163 : tw_ln tw_g0 163 = 64 := rfl
theorem tq_0_0 (t s i : Nat) : tw_r0 t s i 0 0 = some 125 := rfl
theorem tq_0_1 (t s i : Nat) : tw_r0 t s i 0 1 = some 127 := rfl
theorem tq_0_2 (t s i : Nat) : tw_r0 t s i 0 2 = some 128 := rfl
theorem tq_0_3 (t s i : Nat) : tw_r0 t s i 0 3 = some 131 := rfl
theorem tq_0_4 (t s i : Nat) : tw_r0 t s i 0 4 = some 133 := rfl
theorem tq_0_5 (t s i : Nat) : tw_r0 t s i 0 5 = some 137 := rfl
theorem tq_0_6 (t s i : Nat) : tw_r0 t s i 0 6 = some 138 := rfl
theorem tq_1_0 (t s i : Nat) : tw_r0 t s i 1 0 = some 2 := rfl
theorem tq_63_0 (t s i : Nat) : tw_r0 t s i 63 0 = some 64 := rfl
theorem tq_125_0 (t s i : Nat) : tw_r0 t s i 125 0 = some 126 := rfl
theorem tq_127_0 (t s i : Nat) : tw_r0 t s i 127 0 = some 125 := rfl
theorem tq_128_0 (t s i : Nat) : tw_r0 t s i 128 0 = some 129 := rfl
theorem tq_128_1 (t s i : Nat) : tw_r0 t s i 128 1 = some 130 := rfl
theorem tq_131_0 (t s i : Nat) : tw_r0 t s i 131 0 = some 132 := rfl
theorem tq_133_0 (t s i : Nat) : tw_r0 t s i 133 0 = some 134 := rfl
theorem tq_133_1 (t s i : Nat) : tw_r0 t s i 133 1 = some 135 := rfl
theorem tq_133_2 (t s i : Nat) : tw_r0 t s i 133 2 = some 136 := rfl
theorem tq_137_0 (t s i : Nat) : tw_r0 t s i 137 0 = some 128 := rfl
theorem tq_137_1 (t s i : Nat) : tw_r0 t s i 137 1 = some 133 := rfl
theorem tq_138_0 (t s i : Nat) : tw_r0 t s i 138 0 = some 128 := rfl
theorem tq_138_1 (t s i : Nat) : tw_r0 t s i 138 1 = some 133 := rfl
theorem tq_139_1 (t s i : Nat) : tw_r0 t s i 139 1 = some 140 := rfl
theorem tq_139_6 (t s i : Nat) : tw_r0 t s i 139 6 = some 141 := rfl
theorem tq_139_7 (t s i : Nat) : tw_r0 t s i 139 7 = some 142 := rfl
theorem tq_139_8 (t s i : Nat) : tw_r0 t s i 139 8 = some 143 := rfl
theorem tq_139_9 (t s i : Nat) : tw_r0 t s i 139 9 = some 144 := rfl
theorem tq_139_10 (t s i : Nat) : tw_r0 t s i 139 10 = some 145 := rfl
theorem tq_139_12 (t s i : Nat) : tw_r0 t s i 139 12 = some 146 := rfl
theorem tq_139_13 (t s i : Nat) : tw_r0 t s i 139 13 = some 147 := rfl
theorem tq_139_14 (t s i : Nat) : tw_r0 t s i 139 14 = some 148 := rfl
theorem tq_139_15 (t s i : Nat) : tw_r0 t s i 139 15 = some 149 := rfl
theorem tq_139_16 (t s i : Nat) : tw_r0 t s i 139 16 = some 150 := rfl
theorem tq_139_17 (t s i : Nat) : tw_r0 t s i 139 17 = some 151 := rfl
theorem tq_139_18 (t s i : Nat) : tw_r0 t s i 139 18 = some 152 := rfl
theorem tq_139_19 (t s i : Nat) : tw_r0 t s i 139 19 = some 153 := rfl
theorem tq_139_21 (t s i : Nat) : tw_r0 t s i 139 21 = some 154 := rfl
theorem tq_139_22 (t s i : Nat) : tw_r0 t s i 139 22 = some 155 := rfl
theorem tq_139_24 (t s i : Nat) : tw_r0 t s i 139 24 = some 156 := rfl
theorem tq_139_26 (t s i : Nat) : tw_r0 t s i 139 26 = some 157 := rfl
theorem tq_139_27 (t s i : Nat) : tw_r0 t s i 139 27 = some 158 := rfl
theorem tq_139_28 (t s i : Nat) : tw_r0 t s i 139 28 = some 159 := rfl
theorem tq_139_34 (t s i : Nat) : tw_r0 t s i 139 34 = some 160 := rfl
theorem tq_139_35 (t s i : Nat) : tw_r0 t s i 139 35 = some 161 := rfl
theorem tq_139_36 (t s i : Nat) : tw_r0 t s i 139 36 = some 162 := rfl
theorem tq_139_37 (t s i : Nat) : tw_r0 t s i 139 37 = some 163 := rfl
theorem tq_t (t s i : Nat) : tw_r0 t s i 0 7 = some t := rfl
theorem tq_s (t s i : Nat) : tw_r0 t s i 0 8 = some s := rfl
theorem tq_i (t s i : Nat) : tw_r0 t s i 127 1 = some i := rfl
theorem tw_va_s (a : Nat) : va_rf (some a) = .ref a := rfl
theorem tw_va_n : va_rf none = .null := rfl
theorem tw_st_ap {α : Type} (f : Nat → α) (a : Nat) (r : α) (b : Nat) : tw_st f a r b = if b = a then r else f b := rfl
/-- a trigger's cells, whichever of the two -/
theorem tw_tk {t : Nat} (ht : t = 1 ∨ t = 63) : tw_kd tw_g0 t = 1 := by rcases ht with rfl | rfl <;> rfl
theorem tw_tk1 {t : Nat} (ht : t = 1 ∨ t = 63) : tw_kd tw_g0 (t + 1) = 22 := by rcases ht with rfl | rfl <;> rfl
theorem tw_tj1 {t : Nat} (ht : t = 1 ∨ t = 63) : tw_ln tw_g0 (t + 1) = 60 := by rcases ht with rfl | rfl <;> rfl
theorem tw_tq {t : Nat} (ht : t = 1 ∨ t = 63) (t' s i : Nat) : tw_r0 t' s i t 0 = some (t + 1) := by rcases ht with rfl | rfl <;> rfl
theorem tw_tq1 {t : Nat} (ht : t = 1 ∨ t = 63) (t' s i : Nat) {k : Nat} (hk : k < 60) : tw_r0 t' s i (t + 1) k = some (t + 2 + k) := by
  rcases ht with rfl | rfl
  · simp [tw_r0, hk]
  · simp [tw_r0, hk]
set_option maxRecDepth 10000 in
theorem tw_tk2 {t : Nat} (ht : t = 1 ∨ t = 63) {k : Nat} (hk : k < 60) : tw_kd tw_g0 (t + 2 + k) = 2 := by
  have h1 : ∀ k, k < 60 → tw_kd tw_g0 (1 + 2 + k) = 2 := by decide +kernel
  have h2 : ∀ k, k < 60 → tw_kd tw_g0 (63 + 2 + k) = 2 := by decide +kernel
  rcases ht with rfl | rfl
  · exact h1 k hk
  · exact h2 k hk
