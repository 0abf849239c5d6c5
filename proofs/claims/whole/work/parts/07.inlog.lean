def f_X0_clear (h : hp)  : Option hp := some (u2 (u2 h 5 1 0) 5 2 0)
abbrev rmX0_clear : Room := { frames := 0, cells := 0, slots := 0, locals := 0 }
set_option maxHeartbeats 4000000 in
set_option maxRecDepth 100000 in
theorem c_X0_clear (l : Launch) (dC : Nat → ClassId) (dI : Nat → Nat → Nat) (cI cS : ClassId) (a : Nat → Nat) (hD : xD 95 a) (h : hp)  {h9 : hp} (hf : f_X0_clear h  = some h9) : XMv l yX0_clear wsX0_clear rmX0_clear (dC, dI) vwCl (kty cI cS) 95 a (kcf cI cS a) h [.ref (a 5)] h9 := by
  refine xm_v (cc := cX0_clear) (maxL := 1) (ws' := wsX0_clear.tail) (by decide) rfl hD (Nat.le_of_ble_eq_true rfl) [(0, .ref (a 5))] rfl RX0 rfl ?_
  intro p e s m args below meth c C hlk hr
  have wl15 : Cond.fieldLink RX0 15 "RewindBox$Inputs" "first" "I" ∈ wsX0_clear := by decide +kernel
  have wnX0 : ∀ w ∈ u_ws RX0 TX0 3, w ∈ wsX0_clear := by decide +kernel
  have wl19 : Cond.fieldLink RX0 19 "RewindBox$Inputs" "count" "I" ∈ wsX0_clear := by decide +kernel
  unfold f_X0_clear at hf
  refine xr_aload_n C dX0_clear_0 0 rfl rfl ?_
  refine xr_iconst C (v := 0) dX0_clear_1 (by decide +kernel) ?_
  refine xr_put C (ci := 0) (Cn := RX0) (T := TX0) (N := 3) (ty := .int) (v := 0) 5 (by decide) rfl rfl 1 (by decide) wnX0 wl15 rfl tyX0 tyX0_ok nmX0 rfl (by decide +kernel) rfl rfl (Nat.le_of_ble_eq_true rfl) rfl dX0_clear_2 ?_
  refine xr_aload_n C dX0_clear_5 0 rfl rfl ?_
  refine xr_iconst C (v := 0) dX0_clear_6 (by decide +kernel) ?_
  refine xr_put C (ci := 0) (Cn := RX0) (T := TX0) (N := 3) (ty := .int) (v := 0) 5 (by decide) rfl rfl 2 (by decide) wnX0 wl19 rfl tyX0 tyX0_ok nmX0 rfl (by decide +kernel) rfl rfl (Nat.le_of_ble_eq_true rfl) rfl dX0_clear_7 ?_
  cases hf
  exact xr_vret C hlk hr dX0_clear_10
def f_X0_add (h : hp) (x1 : Int32) : Option hp := gd (¬ ((((h 5 1) + (h 5 2)) - ((h 5 1) + (h 5 2)) / 100 * 100) < 0 ∨ 100 ≤ (((h 5 1) + (h 5 2)) - ((h 5 1) + (h 5 2)) / 100 * 100).toNatClampNeg)) (some (u2 (u2 h 6 (((h 5 1) + (h 5 2)) - ((h 5 1) + (h 5 2)) / 100 * 100).toNatClampNeg x1) 5 2 ((h 5 2) + 1)))
abbrev rmX0_add : Room := { frames := 0, cells := 0, slots := 0, locals := 0 }
set_option maxHeartbeats 4000000 in
set_option maxRecDepth 100000 in
theorem c_X0_add (l : Launch) (dC : Nat → ClassId) (dI : Nat → Nat → Nat) (cI cS : ClassId) (a : Nat → Nat) (hD : xD 95 a) (h : hp) (x1 : Int32) {h9 : hp} (hf : f_X0_add h x1 = some h9) : XMv l yX0_add wsX0_add rmX0_add (dC, dI) vwCl (kty cI cS) 95 a (kcf cI cS a) h [.ref (a 5), .int x1] h9 := by
  refine xm_v (cc := cX0_add) (maxL := 2) (ws' := wsX0_add.tail) (by decide) rfl hD (Nat.le_of_ble_eq_true rfl) [(0, .ref (a 5)), (1, .int x1)] rfl RX0 rfl ?_
  intro p e s m args below meth c C hlk hr
  have wl9 : Cond.fieldLink RX0 9 "RewindBox$Inputs" "values" "[I" ∈ wsX0_add := by decide +kernel
  have wnX0 : ∀ w ∈ u_ws RX0 TX0 3, w ∈ wsX0_add := by decide +kernel
  have wl15 : Cond.fieldLink RX0 15 "RewindBox$Inputs" "first" "I" ∈ wsX0_add := by decide +kernel
  have wl19 : Cond.fieldLink RX0 19 "RewindBox$Inputs" "count" "I" ∈ wsX0_add := by decide +kernel
  unfold f_X0_add at hf
  refine xr_aload_n C dX0_add_0 0 rfl rfl ?_
  refine xr_get C (ci := 0) (Cn := RX0) (T := TX0) (N := 3) (v := .ref (a 6)) 5 (by decide) rfl rfl 0 (by decide) wnX0 wl9 rfl rfl dX0_add_1 ?_
  refine xr_aload_n C dX0_add_4 0 rfl rfl ?_
  refine xr_get C (ci := 0) (Cn := RX0) (T := TX0) (N := 3) (v := .int (h 5 1)) 5 (by decide) rfl rfl 1 (by decide) wnX0 wl15 rfl rfl dX0_add_5 ?_
  refine xr_aload_n C dX0_add_8 0 rfl rfl ?_
  refine xr_get C (ci := 0) (Cn := RX0) (T := TX0) (N := 3) (v := .int (h 5 2)) 5 (by decide) rfl rfl 2 (by decide) wnX0 wl19 rfl rfl dX0_add_9 ?_
  refine xr_iadd C dX0_add_12 ?_
  refine xr_bipush C (v := 100) dX0_add_13 (by decide +kernel) ?_
  refine xr_irem C dX0_add_15 (by decide) ?_
  refine xr_iload_n C dX0_add_16 1 rfl rfl ?_
  obtain ⟨gg1, hf⟩ := gd_some hf
  refine xr_iast C 6 (by decide) 0 (fun _ => rfl) rfl gg1 dX0_add_17 ?_
  refine xr_aload_n C dX0_add_18 0 rfl rfl ?_
  refine xr_dup C dX0_add_19 rfl ?_
  refine xr_get C (ci := 0) (Cn := RX0) (T := TX0) (N := 3) (v := .int (h 5 2)) 5 (by decide) rfl rfl 2 (by decide) wnX0 wl19 rfl rfl dX0_add_20 ?_
  refine xr_iconst C (v := 1) dX0_add_23 (by decide +kernel) ?_
  refine xr_iadd C dX0_add_24 ?_
  refine xr_put C (ci := 0) (Cn := RX0) (T := TX0) (N := 3) (ty := .int) (v := ((h 5 2) + 1)) 5 (by decide) rfl rfl 2 (by decide) wnX0 wl19 rfl tyX0 tyX0_ok nmX0 rfl (by decide +kernel) rfl rfl (Nat.le_of_ble_eq_true rfl) rfl dX0_add_25 ?_
  cases hf
  exact xr_vret C hlk hr dX0_add_28
def f_X0_take (h : hp)  : Option (Int32 × hp) := gd (¬ ((h 5 1) < 0 ∨ 100 ≤ (h 5 1).toNatClampNeg)) (gl (h 6 (h 5 1).toNatClampNeg) (fun v2 => some (v2, (u2 (u2 h 5 1 (((h 5 1) + 1) - ((h 5 1) + 1) / 100 * 100)) 5 2 ((h 5 2) - 1)))))
abbrev rmX0_take : Room := { frames := 0, cells := 0, slots := 0, locals := 0 }
set_option maxHeartbeats 4000000 in
set_option maxRecDepth 100000 in
theorem c_X0_take (l : Launch) (dC : Nat → ClassId) (dI : Nat → Nat → Nat) (cI cS : ClassId) (a : Nat → Nat) (hD : xD 95 a) (h : hp)  {r9 : Int32} {h9 : hp} (hf : f_X0_take h  = some (r9, h9)) : XMi l yX0_take wsX0_take rmX0_take (dC, dI) vwCl (kty cI cS) 95 a (kcf cI cS a) h [.ref (a 5)] r9 h9 := by
  refine xm_i (cc := cX0_take) (maxL := 2) (ws' := wsX0_take.tail) (by decide) rfl hD (Nat.le_of_ble_eq_true rfl) [(0, .ref (a 5))] rfl RX0 rfl ?_
  intro p e s m args below meth c C hlk hr
  have wl9 : Cond.fieldLink RX0 9 "RewindBox$Inputs" "values" "[I" ∈ wsX0_take := by decide +kernel
  have wnX0 : ∀ w ∈ u_ws RX0 TX0 3, w ∈ wsX0_take := by decide +kernel
  have wl15 : Cond.fieldLink RX0 15 "RewindBox$Inputs" "first" "I" ∈ wsX0_take := by decide +kernel
  have wl19 : Cond.fieldLink RX0 19 "RewindBox$Inputs" "count" "I" ∈ wsX0_take := by decide +kernel
  unfold f_X0_take at hf
  refine xr_aload_n C dX0_take_0 0 rfl rfl ?_
  refine xr_get C (ci := 0) (Cn := RX0) (T := TX0) (N := 3) (v := .ref (a 6)) 5 (by decide) rfl rfl 0 (by decide) wnX0 wl9 rfl rfl dX0_take_1 ?_
  refine xr_aload_n C dX0_take_4 0 rfl rfl ?_
  refine xr_get C (ci := 0) (Cn := RX0) (T := TX0) (N := 3) (v := .int (h 5 1)) 5 (by decide) rfl rfl 1 (by decide) wnX0 wl15 rfl rfl dX0_take_5 ?_
  obtain ⟨gg1, hf⟩ := gd_some hf
  refine xr_iald C (v := h 6 (h 5 1).toNatClampNeg) 6 (by decide) 0 rfl rfl gg1 rfl dX0_take_8 ?_
  refine xr_topi C (fun v2 ev2 => ?_)
  have hf := gl_at hf v2 ev2
  refine xr_istore_n C [(1, .int v2), (0, .ref (a 5))] dX0_take_9 rfl (by decide) rfl ?_
  refine xr_aload_n C dX0_take_10 1 rfl rfl ?_
  refine xr_aload_n C dX0_take_11 1 rfl rfl ?_
  refine xr_get C (ci := 0) (Cn := RX0) (T := TX0) (N := 3) (v := .int (h 5 1)) 5 (by decide) rfl rfl 1 (by decide) wnX0 wl15 rfl rfl dX0_take_12 ?_
  refine xr_iconst C (v := 1) dX0_take_15 (by decide +kernel) ?_
  refine xr_iadd C dX0_take_16 ?_
  refine xr_bipush C (v := 100) dX0_take_17 (by decide +kernel) ?_
  refine xr_irem C dX0_take_19 (by decide) ?_
  refine xr_put C (ci := 0) (Cn := RX0) (T := TX0) (N := 3) (ty := .int) (v := (((h 5 1) + 1) - ((h 5 1) + 1) / 100 * 100)) 5 (by decide) rfl rfl 1 (by decide) wnX0 wl15 rfl tyX0 tyX0_ok nmX0 rfl (by decide +kernel) rfl rfl (Nat.le_of_ble_eq_true rfl) rfl dX0_take_20 ?_
  refine xr_aload_n C dX0_take_23 1 rfl rfl ?_
  refine xr_dup C dX0_take_24 rfl ?_
  refine xr_get C (ci := 0) (Cn := RX0) (T := TX0) (N := 3) (v := .int (h 5 2)) 5 (by decide) rfl rfl 2 (by decide) wnX0 wl19 rfl rfl dX0_take_25 ?_
  refine xr_iconst C (v := 1) dX0_take_28 (by decide +kernel) ?_
  refine xr_isub C dX0_take_29 ?_
  refine xr_put C (ci := 0) (Cn := RX0) (T := TX0) (N := 3) (ty := .int) (v := ((h 5 2) - 1)) 5 (by decide) rfl rfl 2 (by decide) wnX0 wl19 rfl tyX0 tyX0_ok nmX0 rfl (by decide +kernel) rfl rfl (Nat.le_of_ble_eq_true rfl) rfl dX0_take_30 ?_
  refine xr_iload_n C dX0_take_33 0 rfl rfl ?_
  cases hf
  exact xr_iret C hlk hr dX0_take_34
def f_X1_add (h : hp) (x1 : Int32) (x2 : Int32) (x3 : Int32) : Option hp := gd (¬ ((h 7 3) < 0 ∨ 300 ≤ (h 7 3).toNatClampNeg)) (gd (¬ ((h 7 3) < 0 ∨ 300 ≤ (h 7 3).toNatClampNeg)) (gd (¬ ((h 7 3) < 0 ∨ 300 ≤ (h 7 3).toNatClampNeg)) (some (u2 (u2 (u2 (u2 h 8 (h 7 3).toNatClampNeg x1) 9 (h 7 3).toNatClampNeg x2) 10 (h 7 3).toNatClampNeg x3) 7 3 ((h 7 3) + 1)))))
abbrev rmX1_add : Room := { frames := 0, cells := 0, slots := 0, locals := 0 }
set_option maxHeartbeats 4000000 in
set_option maxRecDepth 100000 in
theorem c_X1_add (l : Launch) (dC : Nat → ClassId) (dI : Nat → Nat → Nat) (cI cS : ClassId) (a : Nat → Nat) (hD : xD 95 a) (h : hp) (x1 : Int32) (x2 : Int32) (x3 : Int32) {h9 : hp} (hf : f_X1_add h x1 x2 x3 = some h9) : XMv l yX1_add wsX1_add rmX1_add (dC, dI) vwCl (kty cI cS) 95 a (kcf cI cS a) h [.ref (a 7), .int x1, .int x2, .int x3] h9 := by
  refine xm_v (cc := cX1_add) (maxL := 4) (ws' := wsX1_add.tail) (by decide) rfl hD (Nat.le_of_ble_eq_true rfl) [(0, .ref (a 7)), (1, .int x1), (2, .int x2), (3, .int x3)] rfl RX1 rfl ?_
  intro p e s m args below meth c C hlk hr
  have wl9 : Cond.fieldLink RX1 9 "RewindBox$Log" "positions" "[I" ∈ wsX1_add := by decide +kernel
  have wnX1 : ∀ w ∈ u_ws RX1 TX1 4, w ∈ wsX1_add := by decide +kernel
  have wl21 : Cond.fieldLink RX1 21 "RewindBox$Log" "count" "I" ∈ wsX1_add := by decide +kernel
  have wl15 : Cond.fieldLink RX1 15 "RewindBox$Log" "kinds" "[I" ∈ wsX1_add := by decide +kernel
  have wl18 : Cond.fieldLink RX1 18 "RewindBox$Log" "values" "[I" ∈ wsX1_add := by decide +kernel
  unfold f_X1_add at hf
  refine xr_aload_n C dX1_add_0 0 rfl rfl ?_
  refine xr_get C (ci := 1) (Cn := RX1) (T := TX1) (N := 4) (v := .ref (a 8)) 7 (by decide) rfl rfl 0 (by decide) wnX1 wl9 rfl rfl dX1_add_1 ?_
  refine xr_aload_n C dX1_add_4 0 rfl rfl ?_
  refine xr_get C (ci := 1) (Cn := RX1) (T := TX1) (N := 4) (v := .int (h 7 3)) 7 (by decide) rfl rfl 3 (by decide) wnX1 wl21 rfl rfl dX1_add_5 ?_
  refine xr_iload_n C dX1_add_8 1 rfl rfl ?_
  obtain ⟨gg1, hf⟩ := gd_some hf
  refine xr_iast C 8 (by decide) 0 (fun _ => rfl) rfl gg1 dX1_add_9 ?_
  refine xr_aload_n C dX1_add_10 0 rfl rfl ?_
  refine xr_get C (ci := 1) (Cn := RX1) (T := TX1) (N := 4) (v := .ref (a 9)) 7 (by decide) rfl rfl 1 (by decide) wnX1 wl15 rfl rfl dX1_add_11 ?_
  refine xr_aload_n C dX1_add_14 0 rfl rfl ?_
  refine xr_get C (ci := 1) (Cn := RX1) (T := TX1) (N := 4) (v := .int (h 7 3)) 7 (by decide) rfl rfl 3 (by decide) wnX1 wl21 rfl rfl dX1_add_15 ?_
  refine xr_iload_n C dX1_add_18 2 rfl rfl ?_
  obtain ⟨gg2, hf⟩ := gd_some hf
  refine xr_iast C 9 (by decide) 0 (fun _ => rfl) rfl gg2 dX1_add_19 ?_
  refine xr_aload_n C dX1_add_20 0 rfl rfl ?_
  refine xr_get C (ci := 1) (Cn := RX1) (T := TX1) (N := 4) (v := .ref (a 10)) 7 (by decide) rfl rfl 2 (by decide) wnX1 wl18 rfl rfl dX1_add_21 ?_
  refine xr_aload_n C dX1_add_24 0 rfl rfl ?_
  refine xr_get C (ci := 1) (Cn := RX1) (T := TX1) (N := 4) (v := .int (h 7 3)) 7 (by decide) rfl rfl 3 (by decide) wnX1 wl21 rfl rfl dX1_add_25 ?_
  refine xr_iload_n C dX1_add_28 3 rfl rfl ?_
  obtain ⟨gg3, hf⟩ := gd_some hf
  refine xr_iast C 10 (by decide) 0 (fun _ => rfl) rfl gg3 dX1_add_29 ?_
  refine xr_aload_n C dX1_add_30 0 rfl rfl ?_
  refine xr_dup C dX1_add_31 rfl ?_
  refine xr_get C (ci := 1) (Cn := RX1) (T := TX1) (N := 4) (v := .int (h 7 3)) 7 (by decide) rfl rfl 3 (by decide) wnX1 wl21 rfl rfl dX1_add_32 ?_
  refine xr_iconst C (v := 1) dX1_add_35 (by decide +kernel) ?_
  refine xr_iadd C dX1_add_36 ?_
  refine xr_put C (ci := 1) (Cn := RX1) (T := TX1) (N := 4) (ty := .int) (v := ((h 7 3) + 1)) 7 (by decide) rfl rfl 3 (by decide) wnX1 wl21 rfl tyX1 tyX1_ok nmX1 rfl (by decide +kernel) rfl rfl (Nat.le_of_ble_eq_true rfl) rfl dX1_add_37 ?_
  cases hf
  exact xr_vret C hlk hr dX1_add_40
def f_X1_countBefore_6 : Nat → hp → Int32 → Int32 → Int32 → Option Int32
  | 0, _, _, _, _ => none
  | n + 1, h0, x1, x2, x3 => if x3 ≤ 0 then (some x2) else (gl (x2 + x3) (fun v2 => if h0 7 3 < v2 then (gl (x3 / 2) (fun v4 => f_X1_countBefore_6 n h0 x1 x2 v4)) else (gd (¬ ((v2 - 1) < 0 ∨ 300 ≤ (v2 - 1).toNatClampNeg)) (if x1 ≤ h0 8 (v2 - 1).toNatClampNeg then (gl (x3 / 2) (fun v7 => f_X1_countBefore_6 n h0 x1 x2 v7)) else (gl (x3 / 2) (fun v8 => f_X1_countBefore_6 n h0 x1 v2 v8))))))
def f_X1_countBefore (h0 : hp) (x1 : Int32) : Option Int32 := f_X1_countBefore_6 1000 h0 x1 0 256
abbrev rmX1_countBefore : Room := { frames := 0, cells := 0, slots := 0, locals := 0 }
set_option maxHeartbeats 4000000 in
set_option maxRecDepth 100000 in
theorem c_X1_countBefore (l : Launch) (dC : Nat → ClassId) (dI : Nat → Nat → Nat) (cI cS : ClassId) (a : Nat → Nat) (hD : xD 95 a) (h0 : hp) (x1 : Int32) {r9 : Int32} (hf : f_X1_countBefore h0 x1 = some r9) : XMi l yX1_countBefore wsX1_countBefore rmX1_countBefore (dC, dI) vwCl (kty cI cS) 95 a (kcf cI cS a) h0 [.ref (a 7), .int x1] r9 h0 := by
  refine xm_i (cc := cX1_countBefore) (maxL := 5) (ws' := wsX1_countBefore.tail) (by decide) rfl hD (Nat.le_of_ble_eq_true rfl) [(0, .ref (a 7)), (1, .int x1)] rfl RX1 rfl ?_
  intro p e s m args below meth c C hlk hr
  have wl21 : Cond.fieldLink RX1 21 "RewindBox$Log" "count" "I" ∈ wsX1_countBefore := by decide +kernel
  have wnX1 : ∀ w ∈ u_ws RX1 TX1 4, w ∈ wsX1_countBefore := by decide +kernel
  have wl9 : Cond.fieldLink RX1 9 "RewindBox$Log" "positions" "[I" ∈ wsX1_countBefore := by decide +kernel
  have lab6 : ∀ (n : Nat) (x1 : Int32) (x2 : Int32) (x3 : Int32) , f_X1_countBefore_6 n h0 x1 x2 x3 = some r9 → XJ p l e rmX1_countBefore s m args below meth c (dC, dI) vwCl 95 a (kcf cI cS a) 5 (MQ below (XQi (dC, dI) vwCl 95 a (kcf cI cS a) r9 h0) args s 0 0 (xA 95 a)) h0 [(0, .ref (a 7)), (1, .int x1), (2, .int x2), (3, .int x3)] [] 6 := by
    intro n
    induction n with
    | zero => intro x1 x2 x3  hf; simp [f_X1_countBefore_6] at hf
    | succ n ih =>
      intro x1 x2 x3  hf
      rw [f_X1_countBefore_6] at hf
      refine xr_iload_n C dX1_countBefore_6 3 rfl rfl ?_
      refine xr_if_le C 47 dX1_countBefore_7 (by decide) (fun cd1 => ?_) (fun cd1 => ?_)
      · rw [if_pos cd1] at hf
        refine xr_iload_n C dX1_countBefore_47 2 rfl rfl ?_
        cases hf
        exact xr_iret C hlk hr dX1_countBefore_48
      · rw [if_neg cd1] at hf
        refine xr_iload_n C dX1_countBefore_10 2 rfl rfl ?_
        refine xr_iload_n C dX1_countBefore_11 3 rfl rfl ?_
        refine xr_iadd C dX1_countBefore_12 ?_
        refine xr_topi C (fun v2 ev2 => ?_)
        have hf := gl_at hf v2 ev2
        refine xr_istore C [(4, .int v2), (0, .ref (a 7)), (1, .int x1), (2, .int x2), (3, .int x3)] dX1_countBefore_13 (by decide) rfl ?_
        refine xr_iload C dX1_countBefore_15 0 rfl ?_
        refine xr_aload_n C dX1_countBefore_17 1 rfl rfl ?_
        refine xr_get C (ci := 1) (Cn := RX1) (T := TX1) (N := 4) (v := .int (h0 7 3)) 7 (by decide) rfl rfl 3 (by decide) wnX1 wl21 rfl rfl dX1_countBefore_18 ?_
        refine xr_icmp_gt C 40 dX1_countBefore_21 (by decide) (fun cd3 => ?_) (fun cd3 => ?_)
        · rw [if_pos cd3] at hf
          refine xr_iload_n C dX1_countBefore_40 4 rfl rfl ?_
          refine xr_iconst C (v := 2) dX1_countBefore_41 (by decide +kernel) ?_
          refine xr_idiv C dX1_countBefore_42 (by decide) ?_
          refine xr_topi C (fun v4 ev4 => ?_)
          have hf := gl_at hf v4 ev4
          refine xr_istore_n C [(3, .int v4), (4, .int v2), (0, .ref (a 7)), (1, .int x1), (2, .int x2)] dX1_countBefore_43 rfl (by decide) rfl ?_
          refine xr_goto C 6 dX1_countBefore_44 (by decide) ?_
          exact xr_sub C [2, 3, 4, 0] rfl (ih  x1 x2 v4  hf)
        · rw [if_neg cd3] at hf
          refine xr_aload_n C dX1_countBefore_24 1 rfl rfl ?_
          refine xr_get C (ci := 1) (Cn := RX1) (T := TX1) (N := 4) (v := .ref (a 8)) 7 (by decide) rfl rfl 0 (by decide) wnX1 wl9 rfl rfl dX1_countBefore_25 ?_
          refine xr_iload C dX1_countBefore_28 0 rfl ?_
          refine xr_iconst C (v := 1) dX1_countBefore_30 (by decide +kernel) ?_
          refine xr_isub C dX1_countBefore_31 ?_
          obtain ⟨gg5, hf⟩ := gd_some hf
          refine xr_iald C (v := h0 8 (v2 - 1).toNatClampNeg) 8 (by decide) 0 rfl rfl gg5 rfl dX1_countBefore_32 ?_
          refine xr_iload_n C dX1_countBefore_33 2 rfl rfl ?_
          refine xr_icmp_ge C 40 dX1_countBefore_34 (by decide) (fun cd6 => ?_) (fun cd6 => ?_)
          · rw [if_pos cd6] at hf
            refine xr_iload_n C dX1_countBefore_40 4 rfl rfl ?_
            refine xr_iconst C (v := 2) dX1_countBefore_41 (by decide +kernel) ?_
            refine xr_idiv C dX1_countBefore_42 (by decide) ?_
            refine xr_topi C (fun v7 ev7 => ?_)
            have hf := gl_at hf v7 ev7
            refine xr_istore_n C [(3, .int v7), (4, .int v2), (0, .ref (a 7)), (1, .int x1), (2, .int x2)] dX1_countBefore_43 rfl (by decide) rfl ?_
            refine xr_goto C 6 dX1_countBefore_44 (by decide) ?_
            exact xr_sub C [2, 3, 4, 0] rfl (ih  x1 x2 v7  hf)
          · rw [if_neg cd6] at hf
            refine xr_iload C dX1_countBefore_37 0 rfl ?_
            refine xr_istore_n C [(2, .int v2), (4, .int v2), (0, .ref (a 7)), (1, .int x1), (3, .int x3)] dX1_countBefore_39 rfl (by decide) rfl ?_
            refine xr_iload_n C dX1_countBefore_40 4 rfl rfl ?_
            refine xr_iconst C (v := 2) dX1_countBefore_41 (by decide +kernel) ?_
            refine xr_idiv C dX1_countBefore_42 (by decide) ?_
            refine xr_topi C (fun v8 ev8 => ?_)
            have hf := gl_at hf v8 ev8
            refine xr_istore_n C [(3, .int v8), (2, .int v2), (4, .int v2), (0, .ref (a 7)), (1, .int x1)] dX1_countBefore_43 rfl (by decide) rfl ?_
            refine xr_goto C 6 dX1_countBefore_44 (by decide) ?_
            exact xr_sub C [3, 4, 1, 0] rfl (ih  x1 v2 v8  hf)
  unfold f_X1_countBefore at hf
  refine xr_iconst C (v := 0) dX1_countBefore_0 (by decide +kernel) ?_
  refine xr_istore_n C [(2, .int 0), (0, .ref (a 7)), (1, .int x1)] dX1_countBefore_1 rfl (by decide) rfl ?_
  refine xr_sipush C (v := 256) dX1_countBefore_2 (by decide +kernel) ?_
  refine xr_istore_n C [(3, .int 256), (2, .int 0), (0, .ref (a 7)), (1, .int x1)] dX1_countBefore_5 rfl (by decide) rfl ?_
  exact xr_sub C [2, 3, 1, 0] rfl (lab6 1000  x1 0 256  hf)
