/-! what holds between the calls -/
/-- the text so far; the nodes; samples and nodes' states; what is caught; the marks; the last fault -/
abbrev tw_W : Type := (Nat × (Nat → Nat)) × (Nat × (Nat → tw_Nd)) × tw_Hs × (Nat × (Nat → Int32)) × tw_Km × Int32
def tw_IC (mi : tw_I) (t : Nat) (w : tw_W) : Prop := tw_CT mi w.1.1 w.1.2 ∧ tw_CS mi t w.2.1.1 w.2.1.2 w.2.2.1 ∧ tw_Cc mi w.2.2.2.1.1 w.2.2.2.1.2 ∧ tw_CK mi w.2.2.2.2.1 ∧ tw_fk mi = w.2.2.2.2.2
def tw_IM (mi : tw_I) (w : tw_W) : Prop := tw_Mt mi w.1.1 w.1.2 ∧ tw_MS mi w.2.1.1 w.2.1.2 w.2.2.1 ∧ tw_is mi w.2.1.1 ∧ tw_Mc mi w.2.2.2.1.1 w.2.2.2.1.2 ∧ tw_MK mi w.2.2.2.2.1 ∧ mi 139 3 = w.2.2.2.2.2
def tw_IV (w : tw_W) : Prop := (∀ j, j < w.1.1 → w.1.2 j < 256) ∧ tw_pv w.2.1.1 w.2.1.2 ∧ tw_Sv w.2.2.1 ∧ ∀ j, j < w.2.2.2.1.1 → tw_16 (w.2.2.2.1.2 j)
def tw_TS (t s : Nat) : Prop := (t = 1 ∧ s = 63) ∨ (t = 63 ∧ s = 1)
section tw_inv
variable {mi mi' : tw_I} {t s n N T C M : Nat} {tp : Nat → Nat} {pg : Nat → tw_Nd} {S : tw_Hs} {ca sm hd : Nat → Int32} {Z : tw_Km} {w : tw_W} {F : Int32}
set_option maxRecDepth 100000 in
theorem tw_TS_t (h : tw_TS t s) : t = 1 ∨ t = 63 := by unfold tw_TS at h; omega
set_option maxRecDepth 100000 in
theorem tw_CT_c (h1 : mi' 125 = mi 125) (h2 : mi' 126 = mi 126) (h : tw_CT mi n tp) : tw_CT mi' n tp := by
  unfold tw_CT at h ⊢
  rw [h1, h2]; exact h
set_option maxRecDepth 100000 in
theorem tw_Ch_c (h1 : mi' 128 = mi 128) (h2 : mi' 129 = mi 129) (h3 : mi' 130 = mi 130) (h : tw_Ch mi T sm hd) : tw_Ch mi' T sm hd := by
  unfold tw_Ch at h ⊢
  rw [h1, h2, h3]; exact h
set_option maxRecDepth 100000 in
theorem tw_CS_c (h : ∀ a, (t ≤ a ∧ a < t + 62) ∨ a = 128 ∨ a = 129 ∨ a = 130 → mi' a = mi a) (hC : tw_CS mi t N pg S) : tw_CS mi' t N pg S := by
  refine ⟨tw_Ch_c (h 128 (by omega)) (h 129 (by omega)) (h 130 (by omega)) hC.1, hC.2.1, by rw [h t (by omega)]; exact hC.2.2.1, fun k hk => ?_⟩
  have := hC.2.1
  rw [h (t + 2 + k) (by omega)]
  exact hC.2.2.2 k hk
set_option maxRecDepth 100000 in
theorem tw_Cc_c (h1 : mi' 131 = mi 131) (h2 : mi' 132 = mi 132) (h : tw_Cc mi C ca) : tw_Cc mi' C ca := by
  unfold tw_Cc at h ⊢
  rw [h1, h2]; exact h
set_option maxRecDepth 100000 in
theorem tw_CK_c (h : ∀ a, 133 ≤ a → a ≤ 136 → mi' a = mi a) (hC : tw_CK mi Z) : tw_CK mi' Z := by
  unfold tw_CK tw_Cm at hC ⊢
  rw [h 133 (by omega) (by omega), h 134 (by omega) (by omega), h 135 (by omega) (by omega), h 136 (by omega) (by omega)]; exact hC
set_option maxRecDepth 100000 in
theorem tw_fk_c (h : mi' 127 = mi 127) : tw_fk mi' = tw_fk mi := by
  unfold tw_fk
  rw [h]
set_option maxRecDepth 100000 in
theorem tw_Mt_c (h1 : mi' 139 2 = mi 139 2) (h2 : mi' 140 = mi 140) (h : tw_Mt mi n tp) : tw_Mt mi' n tp := by
  unfold tw_Mt at h ⊢
  rw [h1, h2]; exact h
set_option maxRecDepth 100000 in
theorem tw_MS_c (h1 : mi' 139 5 = mi 139 5) (h2 : mi' 139 20 = mi 139 20) (h : ∀ a, (141 ≤ a ∧ a ≤ 145) ∨ (151 ≤ a ∧ a ≤ 155) → mi' a = mi a) (hM : tw_MS mi N pg S) : tw_MS mi' N pg S := by
  obtain ⟨⟨a1, a2, a3, a4⟩, b1, b2, b3⟩ := hM
  refine ⟨⟨a1, by rw [h2]; exact a2, by rw [h 154 (by omega)]; exact a3, by rw [h 155 (by omega)]; exact a4⟩, b1, by rw [h1]; exact b2, ?_⟩
  rw [h 141 (by omega), h 142 (by omega), h 143 (by omega), h 144 (by omega), h 145 (by omega), h 151 (by omega), h 152 (by omega), h 153 (by omega)]
  exact b3
set_option maxRecDepth 100000 in
theorem tw_is_c (h1 : mi' 139 4 = mi 139 4) (h : tw_is mi N) : tw_is mi' N := by
  unfold tw_is at h ⊢
  rw [h1]; exact h
set_option maxRecDepth 100000 in
theorem tw_Mc_c (h1 : mi' 139 23 = mi 139 23) (h2 : mi' 156 = mi 156) (h : tw_Mc mi C ca) : tw_Mc mi' C ca := by
  unfold tw_Mc at h ⊢
  rw [h1, h2]; exact h
set_option maxRecDepth 100000 in
theorem tw_MK_c (h1 : mi' 139 25 = mi 139 25) (h : ∀ a, 157 ≤ a → a ≤ 159 → mi' a = mi a) (hC : tw_MK mi Z) : tw_MK mi' Z := by
  unfold tw_MK tw_Mm at hC ⊢
  rw [h1, h 157 (by omega) (by omega), h 158 (by omega) (by omega), h 159 (by omega) (by omega)]; exact hC
set_option maxRecDepth 100000 in
theorem tw_IC_c (ht : t = 1 ∨ t = 63) (h : ∀ a, a < 139 → mi' a = mi a) (hC : tw_IC mi t w) : tw_IC mi' t w :=
  ⟨tw_CT_c (h 125 (by omega)) (h 126 (by omega)) hC.1, tw_CS_c (fun a ha => h a (by omega)) hC.2.1, tw_Cc_c (h 131 (by omega)) (h 132 (by omega)) hC.2.2.1, tw_CK_c (fun a h1 h2 => h a (by omega)) hC.2.2.2.1, by rw [tw_fk_c (h 127 (by omega))]; exact hC.2.2.2.2⟩
set_option maxRecDepth 100000 in
theorem tw_IM_c (h : ∀ a, 139 ≤ a → mi' a = mi a) (hM : tw_IM mi w) : tw_IM mi' w := by
  have e := h 139 (by omega)
  exact ⟨tw_Mt_c (by rw [e]) (h 140 (by omega)) hM.1, tw_MS_c (by rw [e]) (by rw [e]) (fun a ha => h a (by omega)) hM.2.1, tw_is_c (by rw [e]) hM.2.2.1, tw_Mc_c (by rw [e]) (h 156 (by omega)) hM.2.2.2.1, tw_MK_c (by rw [e]) (fun a h1 h2 => h a (by omega)) hM.2.2.2.2.1, by rw [e]; exact hM.2.2.2.2.2⟩
set_option maxRecDepth 100000 in
/-- only thrown of the reference changes -/
theorem tw_IM_th (hM : tw_IM mi w) : tw_IM (tw_th mi) w :=
  ⟨tw_Mt_c (tw_th_x mi (by decide)) (tw_th_a mi (by decide)) hM.1, tw_MS_c (tw_th_x mi (by decide)) (tw_th_x mi (by decide)) (fun a ha => tw_th_a mi (by omega)) hM.2.1, tw_is_c (tw_th_x mi (by decide)) hM.2.2.1, tw_Mc_c (tw_th_x mi (by decide)) (tw_th_a mi (by decide)) hM.2.2.2.1, tw_MK_c (tw_th_x mi (by decide)) (fun a h1 h2 => tw_th_a mi (by omega)) hM.2.2.2.2.1, by rw [tw_th_x mi (by decide)]; exact hM.2.2.2.2.2⟩
/-- another text -/
def tw_wT (w : tw_W) (n : Nat) (tp : Nat → Nat) : tw_W := ((n, tp), w.2)
def tw_wS (w : tw_W) (S : tw_Hs) : tw_W := (w.1, w.2.1, S, w.2.2.2)
def tw_wC (w : tw_W) (C : Nat) (ca : Nat → Int32) : tw_W := (w.1, w.2.1, w.2.2.1, (C, ca), w.2.2.2.2)
def tw_wK (w : tw_W) (Z : tw_Km) : tw_W := (w.1, w.2.1, w.2.2.1, w.2.2.2.1, Z, w.2.2.2.2.2)
def tw_wF (w : tw_W) (F : Int32) : tw_W := (w.1, w.2.1, w.2.2.1, w.2.2.2.1, w.2.2.2.2.1, F)
/-- a text was accepted -/
def tw_wR (w : tw_W) (N : Nat) (pg : Nat → tw_Nd) (F : Int32) : tw_W := ((0, w.1.2), (N, pg), tw_S0, w.2.2.2.1, w.2.2.2.2.1, F)
set_option maxRecDepth 100000 in
theorem tw_IC_T (ht : t = 1 ∨ t = 63) (hC : tw_IC mi t w) (h1 : tw_CT mi' n tp) (h : ∀ a, a ≠ 125 → a ≠ 126 → mi' a = mi a) : tw_IC mi' t (tw_wT w n tp) :=
  ⟨h1, tw_CS_c (fun a ha => h a (by omega) (by omega)) hC.2.1, tw_Cc_c (h 131 (by omega) (by omega)) (h 132 (by omega) (by omega)) hC.2.2.1, tw_CK_c (fun a h1 h2 => h a (by omega) (by omega)) hC.2.2.2.1, by rw [tw_fk_c (h 127 (by omega) (by omega))]; exact hC.2.2.2.2⟩
set_option maxRecDepth 100000 in
theorem tw_IC_S (ht : t = 1 ∨ t = 63) (hC : tw_IC mi t w) (h1 : tw_CS mi' t w.2.1.1 w.2.1.2 S) (h : ∀ a, (a < t + 2 ∨ t + 2 + w.2.1.1 ≤ a) → a ≠ 128 → a ≠ 129 → a ≠ 130 → mi' a = mi a) : tw_IC mi' t (tw_wS w S) := by
  have hN := hC.2.1.2.1
  exact ⟨tw_CT_c (h 125 (by omega) (by omega) (by omega) (by omega)) (h 126 (by omega) (by omega) (by omega) (by omega)) hC.1, h1, tw_Cc_c (h 131 (by omega) (by omega) (by omega) (by omega)) (h 132 (by omega) (by omega) (by omega) (by omega)) hC.2.2.1, tw_CK_c (fun a h1 h2 => h a (by omega) (by omega) (by omega) (by omega)) hC.2.2.2.1, by rw [tw_fk_c (h 127 (by omega) (by omega) (by omega) (by omega))]; exact hC.2.2.2.2⟩
set_option maxRecDepth 100000 in
theorem tw_IC_C (ht : t = 1 ∨ t = 63) (hC : tw_IC mi t w) (h1 : tw_Cc mi' C ca) (h : ∀ a, a ≠ 131 → a ≠ 132 → mi' a = mi a) : tw_IC mi' t (tw_wC w C ca) :=
  ⟨tw_CT_c (h 125 (by omega) (by omega)) (h 126 (by omega) (by omega)) hC.1, tw_CS_c (fun a ha => h a (by omega) (by omega)) hC.2.1, h1, tw_CK_c (fun a h1 h2 => h a (by omega) (by omega)) hC.2.2.2.1, by rw [tw_fk_c (h 127 (by omega) (by omega))]; exact hC.2.2.2.2⟩
set_option maxRecDepth 100000 in
theorem tw_IC_K (ht : t = 1 ∨ t = 63) (hC : tw_IC mi t w) (h1 : tw_CK mi' Z) (h : ∀ a, a ≠ 133 → a ≠ 134 → a ≠ 135 → a ≠ 136 → a ≠ 138 → mi' a = mi a) : tw_IC mi' t (tw_wK w Z) :=
  ⟨tw_CT_c (h 125 (by omega) (by omega) (by omega) (by omega) (by omega)) (h 126 (by omega) (by omega) (by omega) (by omega) (by omega)) hC.1, tw_CS_c (fun a ha => h a (by omega) (by omega) (by omega) (by omega) (by omega)) hC.2.1, tw_Cc_c (h 131 (by omega) (by omega) (by omega) (by omega) (by omega)) (h 132 (by omega) (by omega) (by omega) (by omega) (by omega)) hC.2.2.1, h1, by rw [tw_fk_c (h 127 (by omega) (by omega) (by omega) (by omega) (by omega))]; exact hC.2.2.2.2⟩
set_option maxRecDepth 100000 in
theorem tw_IM_T (hM : tw_IM mi w) (h1 : tw_Mt mi' n tp) (h : ∀ a, a ≠ 139 → a ≠ 140 → mi' a = mi a) (hx : ∀ x, x ≠ 0 → x ≠ 2 → mi' 139 x = mi 139 x) : tw_IM mi' (tw_wT w n tp) :=
  ⟨h1, tw_MS_c (hx 5 (by omega) (by omega)) (hx 20 (by omega) (by omega)) (fun a ha => h a (by omega) (by omega)) hM.2.1, tw_is_c (hx 4 (by omega) (by omega)) hM.2.2.1, tw_Mc_c (hx 23 (by omega) (by omega)) (h 156 (by omega) (by omega)) hM.2.2.2.1, tw_MK_c (hx 25 (by omega) (by omega)) (fun a h1 h2 => h a (by omega) (by omega)) hM.2.2.2.2.1, by rw [hx 3 (by omega) (by omega)]; exact hM.2.2.2.2.2⟩
set_option maxRecDepth 100000 in
theorem tw_IM_S (hM : tw_IM mi w) (h1 : tw_MS mi' w.2.1.1 w.2.1.2 S) (h : ∀ a, a ≠ 139 → a ≠ 151 → a ≠ 152 → a ≠ 153 → a ≠ 154 → a ≠ 155 → mi' a = mi a) (hx : ∀ x, x ≠ 0 → x ≠ 20 → mi' 139 x = mi 139 x) : tw_IM mi' (tw_wS w S) :=
  ⟨tw_Mt_c (hx 2 (by omega) (by omega)) (h 140 (by omega) (by omega) (by omega) (by omega) (by omega) (by omega)) hM.1, h1, tw_is_c (hx 4 (by omega) (by omega)) hM.2.2.1, tw_Mc_c (hx 23 (by omega) (by omega)) (h 156 (by omega) (by omega) (by omega) (by omega) (by omega) (by omega)) hM.2.2.2.1, tw_MK_c (hx 25 (by omega) (by omega)) (fun a h1 h2 => h a (by omega) (by omega) (by omega) (by omega) (by omega) (by omega)) hM.2.2.2.2.1, by rw [hx 3 (by omega) (by omega)]; exact hM.2.2.2.2.2⟩
set_option maxRecDepth 100000 in
theorem tw_IM_C (hM : tw_IM mi w) (h1 : tw_Mc mi' C ca) (h : ∀ a, a ≠ 139 → a ≠ 156 → mi' a = mi a) (hx : ∀ x, x ≠ 0 → x ≠ 23 → mi' 139 x = mi 139 x) : tw_IM mi' (tw_wC w C ca) :=
  ⟨tw_Mt_c (hx 2 (by omega) (by omega)) (h 140 (by omega) (by omega)) hM.1, tw_MS_c (hx 5 (by omega) (by omega)) (hx 20 (by omega) (by omega)) (fun a ha => h a (by omega) (by omega)) hM.2.1, tw_is_c (hx 4 (by omega) (by omega)) hM.2.2.1, h1, tw_MK_c (hx 25 (by omega) (by omega)) (fun a h1 h2 => h a (by omega) (by omega)) hM.2.2.2.2.1, by rw [hx 3 (by omega) (by omega)]; exact hM.2.2.2.2.2⟩
set_option maxRecDepth 100000 in
theorem tw_IM_K (hM : tw_IM mi w) (h1 : tw_MK mi' Z) (h : ∀ a, a ≠ 139 → a ≠ 157 → a ≠ 158 → a ≠ 159 → mi' a = mi a) (hx : ∀ x, x ≠ 0 → x ≠ 25 → mi' 139 x = mi 139 x) : tw_IM mi' (tw_wK w Z) :=
  ⟨tw_Mt_c (hx 2 (by omega) (by omega)) (h 140 (by omega) (by omega) (by omega) (by omega)) hM.1, tw_MS_c (hx 5 (by omega) (by omega)) (hx 20 (by omega) (by omega)) (fun a ha => h a (by omega) (by omega) (by omega) (by omega)) hM.2.1, tw_is_c (hx 4 (by omega) (by omega)) hM.2.2.1, tw_Mc_c (hx 23 (by omega) (by omega)) (h 156 (by omega) (by omega) (by omega) (by omega)) hM.2.2.2.1, h1, by rw [hx 3 (by omega) (by omega)]; exact hM.2.2.2.2.2⟩
end tw_inv
section tw_start
variable {sc : Nat × (Nat → Int32)} {D : Nat} {Q : Option Value → tw_G → tw_I → tw_Q → Prop}
set_option maxRecDepth 100000 in
theorem tw_l_start (hQ : tw_E sc (D + 4) 174 18 [some (.retAddr 0), some (.ref 0), some (.ref 139), some (.int 0)] [] tw_g0 tw_i0 (tw_r0 1 63 63) Q) : tw_E sc (D + 4) 174 0 [some (.retAddr 0), none, none, none] [] (0, 0, fun _ => (99, 0)) (fun _ _ => 0) (fun _ _ => none) Q := by
  have e1 : (fun _ _ => 0 : tw_I) = tw_i9 := rfl
  have e2 : (fun _ _ => none : tw_Q) = tw_rm 0 0 [] := by
    funext a k
    unfold tw_rm
    rw [if_neg (by omega), if_neg (by omega)]
    rfl
  rw [tw_gA_0, e1, e2]
  simp (decide := true) only [tz_174_0, tz_174_3, tz_174_4, tz_174_7, tz_174_8, tz_174_11, tz_174_12, tz_174_15, tz_174_16, tz_174_17, tw_va_s, tw_va_n, tw_K_s, tw_K_n, and_true, true_and, and_false, false_and, true_or, or_true, not_true_eq_false, not_false_eq_true, ↓reduceIte, Nat.reduceEqDiff, tw_gA_1, tgn_0, tgn_139, trn_0, trn_139, tw_i9N, tw_i0N, tw_c_Tl, tw_c_Mo, tw_gA_e, tw_rm_e]
  exact hQ
/-- both objects, as they are made -/
def tw_w0 : tw_W := ((0, fun _ => 0), (0, fun _ => (0, 0, 0, 0, 0)), tw_S0, (0, fun _ => 0), (0, fun _ => 0, fun _ => 0, fun _ => 0), 0)
set_option maxRecDepth 100000 in
theorem tw_w0_C : tw_IC tw_i0 1 tw_w0 := by
  refine ⟨⟨Nat.zero_le _, rfl, fun j hj => absurd hj (Nat.not_lt_zero j)⟩, ⟨⟨Nat.zero_le _, rfl, rfl, fun j hj => absurd hj (Nat.not_lt_zero j), fun j hj => absurd hj (Nat.not_lt_zero j)⟩, Nat.zero_le _, rfl, fun j hj => absurd hj (Nat.not_lt_zero j)⟩, ⟨Nat.zero_le _, rfl, fun j hj => absurd hj (Nat.not_lt_zero j)⟩, ⟨Nat.zero_le _, rfl, fun j hj => absurd hj (Nat.not_lt_zero j)⟩, rfl⟩
set_option maxRecDepth 100000 in
theorem tw_w0_M : tw_IM tw_i0 tw_w0 := by
  refine ⟨⟨Nat.zero_le _, rfl, fun j hj => absurd hj (Nat.not_lt_zero j)⟩, ⟨⟨Nat.zero_le _, rfl, fun j hj => absurd hj (Nat.not_lt_zero j), fun j hj => absurd hj (Nat.not_lt_zero j)⟩, Nat.zero_le _, rfl, fun j hj => absurd hj (Nat.not_lt_zero j)⟩, rfl, ⟨Nat.zero_le _, rfl, fun j hj => absurd hj (Nat.not_lt_zero j)⟩, ⟨Nat.zero_le _, rfl, fun j hj => absurd hj (Nat.not_lt_zero j)⟩, rfl⟩
set_option maxRecDepth 100000 in
theorem tw_w0_V : tw_IV tw_w0 := ⟨fun j hj => absurd hj (Nat.not_lt_zero j), ⟨Nat.zero_le _, fun j hj => absurd hj (Nat.not_lt_zero j)⟩, tw_Sv0, fun j hj => absurd hj (Nat.not_lt_zero j)⟩
end tw_start
