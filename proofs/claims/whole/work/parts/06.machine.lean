def f_X2_writtenWithNext (h0 : hp)  : Option Int32 := bR (f_X2_nextOp h0) (fun rr2 => if rr2 = 8 then (gd (¬ ((h0 1 3) < 0 ∨ 512 ≤ (h0 1 3).toNatClampNeg)) (bR (f_X2_target h0 (h0 3 (h0 1 3).toNatClampNeg)) (fun rr6 => some ((h0 1 7) ||| (f_X2_pageBit rr6))))) else (some (h0 1 7)))
abbrev rmX2_writtenWithNext : Room := { frames := 2, cells := 0, slots := 0, locals := 41 }
set_option maxHeartbeats 4000000 in
set_option maxRecDepth 100000 in
theorem c_X2_writtenWithNext (l : Launch) (dC : Nat → ClassId) (dI : Nat → Nat → Nat) (cI cS : ClassId) (a : Nat → Nat) (hD : xD 95 a) (h0 : hp)  {r9 : Int32} (hf : f_X2_writtenWithNext h0  = some r9) : XMi l yX2_writtenWithNext wsX2_writtenWithNext rmX2_writtenWithNext (dC, dI) vwCl (kty cI cS) 95 a (kcf cI cS a) h0 [.ref (a 1)] r9 h0 := by
  refine xm_i (cc := cX2_writtenWithNext) (maxL := 1) (ws' := wsX2_writtenWithNext.tail) (by decide) rfl hD (Nat.le_of_ble_eq_true rfl) [(0, .ref (a 1))] rfl RX2 rfl ?_
  intro p e s m args below meth c C hlk hr
  have wl41 : Cond.fieldLink RX2 41 "RewindBox$Machine" "written" "I" ∈ wsX2_writtenWithNext := by decide +kernel
  have wnX2 : ∀ w ∈ u_ws RX2 TX2 8, w ∈ wsX2_writtenWithNext := by decide +kernel
  have wl15 : Cond.fieldLink RX2 15 "RewindBox$Machine" "memory" "[I" ∈ wsX2_writtenWithNext := by decide +kernel
  have wl27 : Cond.fieldLink RX2 27 "RewindBox$Machine" "pc" "I" ∈ wsX2_writtenWithNext := by decide +kernel
  unfold f_X2_writtenWithNext at hf
  refine xr_aload_n C dX2_writtenWithNext_0 0 rfl rfl ?_
  obtain ⟨rr2, ee1, hf⟩ := bR_some hf
  refine xr_callVi C (Cn := RX2) 1 (by decide) rfl rfl [] [] (c_X2_nextOp l dC dI cI cS a hD h0 ee1) (cwV 0 C.2.2.1 gX2_writtenWithNext_X2_nextOp rfl rfl rfl (by decide +kernel) ⟨Nat.le_of_ble_eq_true rfl, Nat.le_of_ble_eq_true rfl⟩) rfl rfl (Nat.le_of_ble_eq_true rfl) dX2_writtenWithNext_1 ?_
  refine xr_bipush C (v := 8) dX2_writtenWithNext_4 (by decide +kernel) ?_
  refine xr_icmp_ne C 33 dX2_writtenWithNext_6 (by decide) (fun cd3 => ?_) (fun cd3 => ?_)
  · rw [if_neg cd3] at hf
    refine xr_aload_n C dX2_writtenWithNext_33 0 rfl rfl ?_
    refine xr_get C (ci := 2) (Cn := RX2) (T := TX2) (N := 8) (v := .int (h0 1 7)) 1 (by decide) rfl rfl 7 (by decide) wnX2 wl41 rfl rfl dX2_writtenWithNext_34 ?_
    cases hf
    exact xr_iret C hlk hr dX2_writtenWithNext_37
  · rw [if_pos cd3] at hf
    refine xr_aload_n C dX2_writtenWithNext_9 0 rfl rfl ?_
    refine xr_get C (ci := 2) (Cn := RX2) (T := TX2) (N := 8) (v := .int (h0 1 7)) 1 (by decide) rfl rfl 7 (by decide) wnX2 wl41 rfl rfl dX2_writtenWithNext_10 ?_
    refine xr_aload_n C dX2_writtenWithNext_13 0 rfl rfl ?_
    refine xr_aload_n C dX2_writtenWithNext_14 0 rfl rfl ?_
    refine xr_get C (ci := 2) (Cn := RX2) (T := TX2) (N := 8) (v := .ref (a 3)) 1 (by decide) rfl rfl 1 (by decide) wnX2 wl15 rfl rfl dX2_writtenWithNext_15 ?_
    refine xr_aload_n C dX2_writtenWithNext_18 0 rfl rfl ?_
    refine xr_get C (ci := 2) (Cn := RX2) (T := TX2) (N := 8) (v := .int (h0 1 3)) 1 (by decide) rfl rfl 3 (by decide) wnX2 wl27 rfl rfl dX2_writtenWithNext_19 ?_
    obtain ⟨gg4, hf⟩ := gd_some hf
    refine xr_iald C (v := h0 3 (h0 1 3).toNatClampNeg) 3 (by decide) 0 rfl rfl gg4 rfl dX2_writtenWithNext_22 ?_
    obtain ⟨rr6, ee5, hf⟩ := bR_some hf
    refine xr_callVi C (Cn := RX2) 1 (by decide) rfl rfl [.int (h0 3 (h0 1 3).toNatClampNeg)] [.int (h0 1 7)] (c_X2_target l dC dI cI cS a hD h0 (h0 3 (h0 1 3).toNatClampNeg) ee5) (cwV 1 C.2.2.1 gX2_writtenWithNext_X2_target rfl rfl rfl (by decide +kernel) ⟨Nat.le_of_ble_eq_true rfl, Nat.le_of_ble_eq_true rfl⟩) rfl rfl (Nat.le_of_ble_eq_true rfl) dX2_writtenWithNext_23 ?_
    refine xr_callSi C [.int rr6] [.int (h0 1 7)] (c_X2_pageBit l dC dI cI cS a hD h0 rr6 rfl) (va_cwS 1 C.2.2.1 gX2_writtenWithNext_X2_pageBit rfl rfl rfl (by decide +kernel) ⟨Nat.le_of_ble_eq_true rfl, Nat.le_of_ble_eq_true rfl⟩) rfl rfl (Nat.le_of_ble_eq_true rfl) dX2_writtenWithNext_26 ?_
    refine xr_ior C dX2_writtenWithNext_29 ?_
    refine xr_goto C 37 dX2_writtenWithNext_30 (by decide) ?_
    cases hf
    exact xr_iret C hlk hr dX2_writtenWithNext_37
def f_X2_takeRing (h : hp)  : Option hp := some (u2 (u2 (u2 h 1 4 (h 1 3)) 1 3 8) 1 5 0)
abbrev rmX2_takeRing : Room := { frames := 0, cells := 0, slots := 0, locals := 0 }
set_option maxHeartbeats 4000000 in
set_option maxRecDepth 100000 in
theorem c_X2_takeRing (l : Launch) (dC : Nat → ClassId) (dI : Nat → Nat → Nat) (cI cS : ClassId) (a : Nat → Nat) (hD : xD 95 a) (h : hp)  {h9 : hp} (hf : f_X2_takeRing h  = some h9) : XMv l yX2_takeRing wsX2_takeRing rmX2_takeRing (dC, dI) vwCl (kty cI cS) 95 a (kcf cI cS a) h [.ref (a 1)] h9 := by
  refine xm_v (cc := cX2_takeRing) (maxL := 1) (ws' := wsX2_takeRing.tail) (by decide) rfl hD (Nat.le_of_ble_eq_true rfl) [(0, .ref (a 1))] rfl RX2 rfl ?_
  intro p e s m args below meth c C hlk hr
  have wl27 : Cond.fieldLink RX2 27 "RewindBox$Machine" "pc" "I" ∈ wsX2_takeRing := by decide +kernel
  have wnX2 : ∀ w ∈ u_ws RX2 TX2 8, w ∈ wsX2_takeRing := by decide +kernel
  have wl31 : Cond.fieldLink RX2 31 "RewindBox$Machine" "back" "I" ∈ wsX2_takeRing := by decide +kernel
  have wl34 : Cond.fieldLink RX2 34 "RewindBox$Machine" "open" "Z" ∈ wsX2_takeRing := by decide +kernel
  unfold f_X2_takeRing at hf
  refine xr_aload_n C dX2_takeRing_0 0 rfl rfl ?_
  refine xr_aload_n C dX2_takeRing_1 0 rfl rfl ?_
  refine xr_get C (ci := 2) (Cn := RX2) (T := TX2) (N := 8) (v := .int (h 1 3)) 1 (by decide) rfl rfl 3 (by decide) wnX2 wl27 rfl rfl dX2_takeRing_2 ?_
  refine xr_put C (ci := 2) (Cn := RX2) (T := TX2) (N := 8) (ty := .int) (v := h 1 3) 1 (by decide) rfl rfl 4 (by decide) wnX2 wl31 rfl tyX2 tyX2_ok nmX2 rfl (by decide +kernel) rfl rfl (Nat.le_of_ble_eq_true rfl) rfl dX2_takeRing_5 ?_
  refine xr_aload_n C dX2_takeRing_8 0 rfl rfl ?_
  refine xr_bipush C (v := 8) dX2_takeRing_9 (by decide +kernel) ?_
  refine xr_put C (ci := 2) (Cn := RX2) (T := TX2) (N := 8) (ty := .int) (v := 8) 1 (by decide) rfl rfl 3 (by decide) wnX2 wl27 rfl tyX2 tyX2_ok nmX2 rfl (by decide +kernel) rfl rfl (Nat.le_of_ble_eq_true rfl) rfl dX2_takeRing_11 ?_
  refine xr_aload_n C dX2_takeRing_14 0 rfl rfl ?_
  refine xr_iconst C (v := 0) dX2_takeRing_15 (by decide +kernel) ?_
  refine xr_put C (ci := 2) (Cn := RX2) (T := TX2) (N := 8) (ty := .boolean) (v := 0) 1 (by decide) rfl rfl 5 (by decide) wnX2 wl34 rfl tyX2 tyX2_ok nmX2 rfl (by decide +kernel) (by decide +kernel) (by decide +kernel) (Nat.le_of_ble_eq_true rfl) rfl dX2_takeRing_16 ?_
  cases hf
  exact xr_vret C hlk hr dX2_takeRing_19
def f_X2_compute (x0 : Int32) (x1 : Int32) (x2 : Int32) : Int32 := if x0 = 1 then ((x1 + x2)) else (if x0 = 2 then ((x1 - x2)) else (if x0 = 3 then ((x1 * x2)) else (if x0 = 4 then ((x1 &&& x2)) else ((x1 ^^^ x2)))))
abbrev rmX2_compute : Room := { frames := 0, cells := 0, slots := 0, locals := 0 }
set_option maxHeartbeats 4000000 in
set_option maxRecDepth 100000 in
theorem c_X2_compute (l : Launch) (dC : Nat → ClassId) (dI : Nat → Nat → Nat) (cI cS : ClassId) (a : Nat → Nat) (hD : xD 95 a) (h0 : hp) (x0 : Int32) (x1 : Int32) (x2 : Int32) {r9 : Int32} (hf : f_X2_compute x0 x1 x2 = r9) : XMi l yX2_compute wsX2_compute rmX2_compute (dC, dI) vwCl (kty cI cS) 95 a (kcf cI cS a) h0 [.int x0, .int x1, .int x2] r9 h0 := by
  refine xm_i (cc := cX2_compute) (maxL := 3) (ws' := wsX2_compute.tail) (by decide) rfl hD (Nat.le_of_ble_eq_true rfl) [(0, .int x0), (1, .int x1), (2, .int x2)] rfl RX2 rfl ?_
  intro p e s m args below meth c C hlk hr
  unfold f_X2_compute at hf
  refine xr_iload_n C dX2_compute_0 0 rfl rfl ?_
  by_cases cd1 : x0 = 1
  · rw [if_pos cd1] at hf
    refine xr_tableIn C 32 1 dX2_compute_1 (by rw [cd1]; decide) (by decide) (by decide) rfl (by decide) ?_
    refine xr_iload_n C dX2_compute_32 1 rfl rfl ?_
    refine xr_iload_n C dX2_compute_33 2 rfl rfl ?_
    refine xr_iadd C dX2_compute_34 ?_
    subst hf
    exact xr_iret C hlk hr dX2_compute_35
  rw [if_neg cd1] at hf
  by_cases cd2 : x0 = 2
  · rw [if_pos cd2] at hf
    refine xr_tableIn C 36 2 dX2_compute_1 (by rw [cd2]; decide) (by decide) (by decide) rfl (by decide) ?_
    refine xr_iload_n C dX2_compute_36 1 rfl rfl ?_
    refine xr_iload_n C dX2_compute_37 2 rfl rfl ?_
    refine xr_isub C dX2_compute_38 ?_
    subst hf
    exact xr_iret C hlk hr dX2_compute_39
  rw [if_neg cd2] at hf
  by_cases cd3 : x0 = 3
  · rw [if_pos cd3] at hf
    refine xr_tableIn C 40 3 dX2_compute_1 (by rw [cd3]; decide) (by decide) (by decide) rfl (by decide) ?_
    refine xr_iload_n C dX2_compute_40 1 rfl rfl ?_
    refine xr_iload_n C dX2_compute_41 2 rfl rfl ?_
    refine xr_imul C dX2_compute_42 ?_
    subst hf
    exact xr_iret C hlk hr dX2_compute_43
  rw [if_neg cd3] at hf
  by_cases cd4 : x0 = 4
  · rw [if_pos cd4] at hf
    refine xr_tableIn C 44 4 dX2_compute_1 (by rw [cd4]; decide) (by decide) (by decide) rfl (by decide) ?_
    refine xr_iload_n C dX2_compute_44 1 rfl rfl ?_
    refine xr_iload_n C dX2_compute_45 2 rfl rfl ?_
    refine xr_iand C dX2_compute_46 ?_
    subst hf
    exact xr_iret C hlk hr dX2_compute_47
  rw [if_neg cd4] at hf
  refine xr_tableOut C 48 dX2_compute_1 (by have qcd1 := lv_neT cd1 (show Int32.toInt 1 = 1 from by decide); have qcd2 := lv_neT cd2 (show Int32.toInt 2 = 2 from by decide); have qcd3 := lv_neT cd3 (show Int32.toInt 3 = 3 from by decide); have qcd4 := lv_neT cd4 (show Int32.toInt 4 = 4 from by decide); omega) (by decide) ?_
  refine xr_iload_n C dX2_compute_48 1 rfl rfl ?_
  refine xr_iload_n C dX2_compute_49 2 rfl rfl ?_
  refine xr_ixor C dX2_compute_50 ?_
  subst hf
  exact xr_iret C hlk hr dX2_compute_51
def f_X2_jump (h : hp) (x1 : Int32) (x2 : Int32) (x3 : Int32) : Option hp := if x1 = 9 then (some (u2 h 1 3 x3)) else (if x1 = 10 then (if x2 = 0 then (some (u2 h 1 3 x3)) else (some (u2 h 1 3 (h 1 3)))) else (if x1 = 11 then (if 0 ≤ x2 then (some (u2 h 1 3 (h 1 3))) else (some (u2 h 1 3 x3))) else (if x1 = 12 then (some h) else (if x1 = 13 then (some h) else (if x1 = 14 then (some h) else (if x1 = 15 then (some (u2 (u2 h 1 3 (h 1 4)) 1 5 1)) else (if x1 = 16 then (some h) else (if x1 = 17 then (some h) else (if x1 = 18 then (some (u2 h 1 3 (f_X5_placeOf x2))) else (some h))))))))))
abbrev rmX2_jump : Room := { frames := 1, cells := 0, slots := 0, locals := 20 }
set_option maxHeartbeats 4000000 in
set_option maxRecDepth 100000 in
theorem c_X2_jump (l : Launch) (dC : Nat → ClassId) (dI : Nat → Nat → Nat) (cI cS : ClassId) (a : Nat → Nat) (hD : xD 95 a) (h : hp) (x1 : Int32) (x2 : Int32) (x3 : Int32) {h9 : hp} (hf : f_X2_jump h x1 x2 x3 = some h9) : XMv l yX2_jump wsX2_jump rmX2_jump (dC, dI) vwCl (kty cI cS) 95 a (kcf cI cS a) h [.ref (a 1), .int x1, .int x2, .int x3] h9 := by
  refine xm_v (cc := cX2_jump) (maxL := 4) (ws' := wsX2_jump.tail) (by decide) rfl hD (Nat.le_of_ble_eq_true rfl) [(0, .ref (a 1)), (1, .int x1), (2, .int x2), (3, .int x3)] rfl RX2 rfl ?_
  intro p e s m args below meth c C hlk hr
  have wl27 : Cond.fieldLink RX2 27 "RewindBox$Machine" "pc" "I" ∈ wsX2_jump := by decide +kernel
  have wnX2 : ∀ w ∈ u_ws RX2 TX2 8, w ∈ wsX2_jump := by decide +kernel
  have wl31 : Cond.fieldLink RX2 31 "RewindBox$Machine" "back" "I" ∈ wsX2_jump := by decide +kernel
  have wl34 : Cond.fieldLink RX2 34 "RewindBox$Machine" "open" "Z" ∈ wsX2_jump := by decide +kernel
  have wiX5 : Cond.initialized RX5 ∈ wsX2_jump := by decide +kernel
  have wtX5_placeOf : Cond.static yX5_placeOf ∈ wsX2_jump := by decide +kernel
  unfold f_X2_jump at hf
  refine xr_iload_n C dX2_jump_0 1 rfl rfl ?_
  by_cases cd1 : x1 = 9
  · rw [if_pos cd1] at hf
    refine xr_tableIn C 56 9 dX2_jump_1 (by rw [cd1]; decide) (by decide) (by decide) rfl (by decide) ?_
    refine xr_aload_n C dX2_jump_56 0 rfl rfl ?_
    refine xr_iload_n C dX2_jump_57 3 rfl rfl ?_
    refine xr_put C (ci := 2) (Cn := RX2) (T := TX2) (N := 8) (ty := .int) (v := x3) 1 (by decide) rfl rfl 3 (by decide) wnX2 wl27 rfl tyX2 tyX2_ok nmX2 rfl (by decide +kernel) rfl rfl (Nat.le_of_ble_eq_true rfl) rfl dX2_jump_58 ?_
    refine xr_goto C 129 dX2_jump_61 (by decide) ?_
    cases hf
    exact xr_vret C hlk hr dX2_jump_129
  rw [if_neg cd1] at hf
  by_cases cd2 : x1 = 10
  · rw [if_pos cd2] at hf
    refine xr_tableIn C 64 10 dX2_jump_1 (by rw [cd2]; decide) (by decide) (by decide) rfl (by decide) ?_
    refine xr_aload_n C dX2_jump_64 0 rfl rfl ?_
    refine xr_iload_n C dX2_jump_65 2 rfl rfl ?_
    refine xr_if_ne C 73 dX2_jump_66 (by decide) (fun cd3 => ?_) (fun cd3 => ?_)
    · rw [if_neg cd3] at hf
      refine xr_aload_n C dX2_jump_73 0 rfl rfl ?_
      refine xr_get C (ci := 2) (Cn := RX2) (T := TX2) (N := 8) (v := .int (h 1 3)) 1 (by decide) rfl rfl 3 (by decide) wnX2 wl27 rfl rfl dX2_jump_74 ?_
      refine xr_put C (ci := 2) (Cn := RX2) (T := TX2) (N := 8) (ty := .int) (v := h 1 3) 1 (by decide) rfl rfl 3 (by decide) wnX2 wl27 rfl tyX2 tyX2_ok nmX2 rfl (by decide +kernel) rfl rfl (Nat.le_of_ble_eq_true rfl) rfl dX2_jump_77 ?_
      refine xr_goto C 129 dX2_jump_80 (by decide) ?_
      cases hf
      exact xr_vret C hlk hr dX2_jump_129
    · rw [if_pos cd3] at hf
      refine xr_iload_n C dX2_jump_69 3 rfl rfl ?_
      refine xr_goto C 77 dX2_jump_70 (by decide) ?_
      refine xr_put C (ci := 2) (Cn := RX2) (T := TX2) (N := 8) (ty := .int) (v := x3) 1 (by decide) rfl rfl 3 (by decide) wnX2 wl27 rfl tyX2 tyX2_ok nmX2 rfl (by decide +kernel) rfl rfl (Nat.le_of_ble_eq_true rfl) rfl dX2_jump_77 ?_
      refine xr_goto C 129 dX2_jump_80 (by decide) ?_
      cases hf
      exact xr_vret C hlk hr dX2_jump_129
  rw [if_neg cd2] at hf
  by_cases cd4 : x1 = 11
  · rw [if_pos cd4] at hf
    refine xr_tableIn C 83 11 dX2_jump_1 (by rw [cd4]; decide) (by decide) (by decide) rfl (by decide) ?_
    refine xr_aload_n C dX2_jump_83 0 rfl rfl ?_
    refine xr_iload_n C dX2_jump_84 2 rfl rfl ?_
    refine xr_if_ge C 92 dX2_jump_85 (by decide) (fun cd5 => ?_) (fun cd5 => ?_)
    · rw [if_pos cd5] at hf
      refine xr_aload_n C dX2_jump_92 0 rfl rfl ?_
      refine xr_get C (ci := 2) (Cn := RX2) (T := TX2) (N := 8) (v := .int (h 1 3)) 1 (by decide) rfl rfl 3 (by decide) wnX2 wl27 rfl rfl dX2_jump_93 ?_
      refine xr_put C (ci := 2) (Cn := RX2) (T := TX2) (N := 8) (ty := .int) (v := h 1 3) 1 (by decide) rfl rfl 3 (by decide) wnX2 wl27 rfl tyX2 tyX2_ok nmX2 rfl (by decide +kernel) rfl rfl (Nat.le_of_ble_eq_true rfl) rfl dX2_jump_96 ?_
      refine xr_goto C 129 dX2_jump_99 (by decide) ?_
      cases hf
      exact xr_vret C hlk hr dX2_jump_129
    · rw [if_neg cd5] at hf
      refine xr_iload_n C dX2_jump_88 3 rfl rfl ?_
      refine xr_goto C 96 dX2_jump_89 (by decide) ?_
      refine xr_put C (ci := 2) (Cn := RX2) (T := TX2) (N := 8) (ty := .int) (v := x3) 1 (by decide) rfl rfl 3 (by decide) wnX2 wl27 rfl tyX2 tyX2_ok nmX2 rfl (by decide +kernel) rfl rfl (Nat.le_of_ble_eq_true rfl) rfl dX2_jump_96 ?_
      refine xr_goto C 129 dX2_jump_99 (by decide) ?_
      cases hf
      exact xr_vret C hlk hr dX2_jump_129
  rw [if_neg cd4] at hf
  by_cases cd6 : x1 = 12
  · rw [if_pos cd6] at hf
    refine xr_tableIn C 129 12 dX2_jump_1 (by rw [cd6]; decide) (by decide) (by decide) rfl (by decide) ?_
    cases hf
    exact xr_vret C hlk hr dX2_jump_129
  rw [if_neg cd6] at hf
  by_cases cd7 : x1 = 13
  · rw [if_pos cd7] at hf
    refine xr_tableIn C 129 13 dX2_jump_1 (by rw [cd7]; decide) (by decide) (by decide) rfl (by decide) ?_
    cases hf
    exact xr_vret C hlk hr dX2_jump_129
  rw [if_neg cd7] at hf
  by_cases cd8 : x1 = 14
  · rw [if_pos cd8] at hf
    refine xr_tableIn C 129 14 dX2_jump_1 (by rw [cd8]; decide) (by decide) (by decide) rfl (by decide) ?_
    cases hf
    exact xr_vret C hlk hr dX2_jump_129
  rw [if_neg cd8] at hf
  by_cases cd9 : x1 = 15
  · rw [if_pos cd9] at hf
    refine xr_tableIn C 102 15 dX2_jump_1 (by rw [cd9]; decide) (by decide) (by decide) rfl (by decide) ?_
    refine xr_aload_n C dX2_jump_102 0 rfl rfl ?_
    refine xr_aload_n C dX2_jump_103 0 rfl rfl ?_
    refine xr_get C (ci := 2) (Cn := RX2) (T := TX2) (N := 8) (v := .int (h 1 4)) 1 (by decide) rfl rfl 4 (by decide) wnX2 wl31 rfl rfl dX2_jump_104 ?_
    refine xr_put C (ci := 2) (Cn := RX2) (T := TX2) (N := 8) (ty := .int) (v := h 1 4) 1 (by decide) rfl rfl 3 (by decide) wnX2 wl27 rfl tyX2 tyX2_ok nmX2 rfl (by decide +kernel) rfl rfl (Nat.le_of_ble_eq_true rfl) rfl dX2_jump_107 ?_
    refine xr_aload_n C dX2_jump_110 0 rfl rfl ?_
    refine xr_iconst C (v := 1) dX2_jump_111 (by decide +kernel) ?_
    refine xr_put C (ci := 2) (Cn := RX2) (T := TX2) (N := 8) (ty := .boolean) (v := 1) 1 (by decide) rfl rfl 5 (by decide) wnX2 wl34 rfl tyX2 tyX2_ok nmX2 rfl (by decide +kernel) (by decide +kernel) (by decide +kernel) (Nat.le_of_ble_eq_true rfl) rfl dX2_jump_112 ?_
    refine xr_goto C 129 dX2_jump_115 (by decide) ?_
    cases hf
    exact xr_vret C hlk hr dX2_jump_129
  rw [if_neg cd9] at hf
  by_cases cd10 : x1 = 16
  · rw [if_pos cd10] at hf
    refine xr_tableIn C 129 16 dX2_jump_1 (by rw [cd10]; decide) (by decide) (by decide) rfl (by decide) ?_
    cases hf
    exact xr_vret C hlk hr dX2_jump_129
  rw [if_neg cd10] at hf
  by_cases cd11 : x1 = 17
  · rw [if_pos cd11] at hf
    refine xr_tableIn C 129 17 dX2_jump_1 (by rw [cd11]; decide) (by decide) (by decide) rfl (by decide) ?_
    cases hf
    exact xr_vret C hlk hr dX2_jump_129
  rw [if_neg cd11] at hf
  by_cases cd12 : x1 = 18
  · rw [if_pos cd12] at hf
    refine xr_tableIn C 118 18 dX2_jump_1 (by rw [cd12]; decide) (by decide) (by decide) rfl (by decide) ?_
    refine xr_aload_n C dX2_jump_118 0 rfl rfl ?_
    refine xr_iload_n C dX2_jump_119 2 rfl rfl ?_
    refine xr_callSNi C [.int x2] [.ref (a 1)] (c_X5_placeOf l dC dI cI cS a hD h x2 rfl) ⟨va_cnB 1 C.2.2.1 gX2_jump_X5_placeOf_n58 rfl rfl rfl (C.2.2.2.2.1.2 _ List.mem_cons_self) (C.2.2.1 _ wiX5) (by decide +kernel) ⟨Nat.le_of_ble_eq_true rfl, Nat.le_of_ble_eq_true rfl⟩, C.2.2.1 _ wtX5_placeOf, trivial⟩ rfl rfl (Nat.le_of_ble_eq_true rfl) dX2_jump_120 ?_
    refine xr_put C (ci := 2) (Cn := RX2) (T := TX2) (N := 8) (ty := .int) (v := (f_X5_placeOf x2)) 1 (by decide) rfl rfl 3 (by decide) wnX2 wl27 rfl tyX2 tyX2_ok nmX2 rfl (by decide +kernel) rfl rfl (Nat.le_of_ble_eq_true rfl) rfl dX2_jump_123 ?_
    refine xr_goto C 129 dX2_jump_126 (by decide) ?_
    cases hf
    exact xr_vret C hlk hr dX2_jump_129
  rw [if_neg cd12] at hf
  refine xr_tableOut C 129 dX2_jump_1 (by have qcd1 := lv_neT cd1 (show Int32.toInt 9 = 9 from by decide); have qcd2 := lv_neT cd2 (show Int32.toInt 10 = 10 from by decide); have qcd4 := lv_neT cd4 (show Int32.toInt 11 = 11 from by decide); have qcd6 := lv_neT cd6 (show Int32.toInt 12 = 12 from by decide); have qcd7 := lv_neT cd7 (show Int32.toInt 13 = 13 from by decide); have qcd8 := lv_neT cd8 (show Int32.toInt 14 = 14 from by decide); have qcd9 := lv_neT cd9 (show Int32.toInt 15 = 15 from by decide); have qcd10 := lv_neT cd10 (show Int32.toInt 16 = 16 from by decide); have qcd11 := lv_neT cd11 (show Int32.toInt 17 = 17 from by decide); have qcd12 := lv_neT cd12 (show Int32.toInt 18 = 18 from by decide); omega) (by decide) ?_
  cases hf
  exact xr_vret C hlk hr dX2_jump_129
def f_X2_store (h : hp) (x1 : Int32) (x2 : Int32) : Option hp := gd (¬ (x1 < 0 ∨ 512 ≤ x1.toNatClampNeg)) (some (u2 (u2 h 3 x1.toNatClampNeg x2) 1 7 ((h 1 7) ||| (f_X2_pageBit x1))))
abbrev rmX2_store : Room := { frames := 1, cells := 0, slots := 0, locals := 20 }
set_option maxHeartbeats 4000000 in
set_option maxRecDepth 100000 in
theorem c_X2_store (l : Launch) (dC : Nat → ClassId) (dI : Nat → Nat → Nat) (cI cS : ClassId) (a : Nat → Nat) (hD : xD 95 a) (h : hp) (x1 : Int32) (x2 : Int32) {h9 : hp} (hf : f_X2_store h x1 x2 = some h9) : XMv l yX2_store wsX2_store rmX2_store (dC, dI) vwCl (kty cI cS) 95 a (kcf cI cS a) h [.ref (a 1), .int x1, .int x2] h9 := by
  refine xm_v (cc := cX2_store) (maxL := 3) (ws' := wsX2_store.tail) (by decide) rfl hD (Nat.le_of_ble_eq_true rfl) [(0, .ref (a 1)), (1, .int x1), (2, .int x2)] rfl RX2 rfl ?_
  intro p e s m args below meth c C hlk hr
  have wl15 : Cond.fieldLink RX2 15 "RewindBox$Machine" "memory" "[I" ∈ wsX2_store := by decide +kernel
  have wnX2 : ∀ w ∈ u_ws RX2 TX2 8, w ∈ wsX2_store := by decide +kernel
  have wl41 : Cond.fieldLink RX2 41 "RewindBox$Machine" "written" "I" ∈ wsX2_store := by decide +kernel
  unfold f_X2_store at hf
  refine xr_aload_n C dX2_store_0 0 rfl rfl ?_
  refine xr_get C (ci := 2) (Cn := RX2) (T := TX2) (N := 8) (v := .ref (a 3)) 1 (by decide) rfl rfl 1 (by decide) wnX2 wl15 rfl rfl dX2_store_1 ?_
  refine xr_iload_n C dX2_store_4 1 rfl rfl ?_
  refine xr_iload_n C dX2_store_5 2 rfl rfl ?_
  obtain ⟨gg1, hf⟩ := gd_some hf
  refine xr_iast C 3 (by decide) 0 (fun _ => rfl) rfl gg1 dX2_store_6 ?_
  refine xr_aload_n C dX2_store_7 0 rfl rfl ?_
  refine xr_dup C dX2_store_8 rfl ?_
  refine xr_get C (ci := 2) (Cn := RX2) (T := TX2) (N := 8) (v := .int (h 1 7)) 1 (by decide) rfl rfl 7 (by decide) wnX2 wl41 rfl rfl dX2_store_9 ?_
  refine xr_iload_n C dX2_store_12 1 rfl rfl ?_
  refine xr_callSi C [.int x1] [.int (h 1 7), .ref (a 1)] (c_X2_pageBit l dC dI cI cS a hD (u2 h 3 x1.toNatClampNeg x2) x1 rfl) (va_cwS 1 C.2.2.1 gX2_store_X2_pageBit rfl rfl rfl (by decide +kernel) ⟨Nat.le_of_ble_eq_true rfl, Nat.le_of_ble_eq_true rfl⟩) rfl rfl (Nat.le_of_ble_eq_true rfl) dX2_store_13 ?_
  refine xr_ior C dX2_store_16 ?_
  refine xr_put C (ci := 2) (Cn := RX2) (T := TX2) (N := 8) (ty := .int) (v := ((h 1 7) ||| (f_X2_pageBit x1))) 1 (by decide) rfl rfl 7 (by decide) wnX2 wl41 rfl tyX2 tyX2_ok nmX2 rfl (by decide +kernel) rfl rfl (Nat.le_of_ble_eq_true rfl) rfl dX2_store_17 ?_
  cases hf
  exact xr_vret C hlk hr dX2_store_20
def f_X2_putOut (h : hp) (x1 : Int32) : Option hp := if 64 ≤ h 1 6 then (some (u2 h 1 6 ((h 1 6) + 1))) else (gd (¬ ((h 1 6) < 0 ∨ 64 ≤ (h 1 6).toNatClampNeg)) (some (u2 (u2 h 4 (h 1 6).toNatClampNeg x1) 1 6 ((h 1 6) + 1))))
abbrev rmX2_putOut : Room := { frames := 0, cells := 0, slots := 0, locals := 0 }
set_option maxHeartbeats 4000000 in
set_option maxRecDepth 100000 in
theorem c_X2_putOut (l : Launch) (dC : Nat → ClassId) (dI : Nat → Nat → Nat) (cI cS : ClassId) (a : Nat → Nat) (hD : xD 95 a) (h : hp) (x1 : Int32) {h9 : hp} (hf : f_X2_putOut h x1 = some h9) : XMv l yX2_putOut wsX2_putOut rmX2_putOut (dC, dI) vwCl (kty cI cS) 95 a (kcf cI cS a) h [.ref (a 1), .int x1] h9 := by
  refine xm_v (cc := cX2_putOut) (maxL := 2) (ws' := wsX2_putOut.tail) (by decide) rfl hD (Nat.le_of_ble_eq_true rfl) [(0, .ref (a 1)), (1, .int x1)] rfl RX2 rfl ?_
  intro p e s m args below meth c C hlk hr
  have wl38 : Cond.fieldLink RX2 38 "RewindBox$Machine" "outCount" "I" ∈ wsX2_putOut := by decide +kernel
  have wnX2 : ∀ w ∈ u_ws RX2 TX2 8, w ∈ wsX2_putOut := by decide +kernel
  have wl18 : Cond.fieldLink RX2 18 "RewindBox$Machine" "keptOuts" "[I" ∈ wsX2_putOut := by decide +kernel
  unfold f_X2_putOut at hf
  refine xr_aload_n C dX2_putOut_0 0 rfl rfl ?_
  refine xr_get C (ci := 2) (Cn := RX2) (T := TX2) (N := 8) (v := .int (h 1 6)) 1 (by decide) rfl rfl 6 (by decide) wnX2 wl38 rfl rfl dX2_putOut_1 ?_
  refine xr_bipush C (v := 64) dX2_putOut_4 (by decide +kernel) ?_
  refine xr_icmp_ge C 19 dX2_putOut_6 (by decide) (fun cd1 => ?_) (fun cd1 => ?_)
  · rw [if_pos cd1] at hf
    refine xr_aload_n C dX2_putOut_19 0 rfl rfl ?_
    refine xr_dup C dX2_putOut_20 rfl ?_
    refine xr_get C (ci := 2) (Cn := RX2) (T := TX2) (N := 8) (v := .int (h 1 6)) 1 (by decide) rfl rfl 6 (by decide) wnX2 wl38 rfl rfl dX2_putOut_21 ?_
    refine xr_iconst C (v := 1) dX2_putOut_24 (by decide +kernel) ?_
    refine xr_iadd C dX2_putOut_25 ?_
    refine xr_put C (ci := 2) (Cn := RX2) (T := TX2) (N := 8) (ty := .int) (v := ((h 1 6) + 1)) 1 (by decide) rfl rfl 6 (by decide) wnX2 wl38 rfl tyX2 tyX2_ok nmX2 rfl (by decide +kernel) rfl rfl (Nat.le_of_ble_eq_true rfl) rfl dX2_putOut_26 ?_
    cases hf
    exact xr_vret C hlk hr dX2_putOut_29
  · rw [if_neg cd1] at hf
    refine xr_aload_n C dX2_putOut_9 0 rfl rfl ?_
    refine xr_get C (ci := 2) (Cn := RX2) (T := TX2) (N := 8) (v := .ref (a 4)) 1 (by decide) rfl rfl 2 (by decide) wnX2 wl18 rfl rfl dX2_putOut_10 ?_
    refine xr_aload_n C dX2_putOut_13 0 rfl rfl ?_
    refine xr_get C (ci := 2) (Cn := RX2) (T := TX2) (N := 8) (v := .int (h 1 6)) 1 (by decide) rfl rfl 6 (by decide) wnX2 wl38 rfl rfl dX2_putOut_14 ?_
    refine xr_iload_n C dX2_putOut_17 1 rfl rfl ?_
    obtain ⟨gg2, hf⟩ := gd_some hf
    refine xr_iast C 4 (by decide) 0 (fun _ => rfl) rfl gg2 dX2_putOut_18 ?_
    refine xr_aload_n C dX2_putOut_19 0 rfl rfl ?_
    refine xr_dup C dX2_putOut_20 rfl ?_
    refine xr_get C (ci := 2) (Cn := RX2) (T := TX2) (N := 8) (v := .int (h 1 6)) 1 (by decide) rfl rfl 6 (by decide) wnX2 wl38 rfl rfl dX2_putOut_21 ?_
    refine xr_iconst C (v := 1) dX2_putOut_24 (by decide +kernel) ?_
    refine xr_iadd C dX2_putOut_25 ?_
    refine xr_put C (ci := 2) (Cn := RX2) (T := TX2) (N := 8) (ty := .int) (v := ((h 1 6) + 1)) 1 (by decide) rfl rfl 6 (by decide) wnX2 wl38 rfl tyX2 tyX2_ok nmX2 rfl (by decide +kernel) rfl rfl (Nat.le_of_ble_eq_true rfl) rfl dX2_putOut_26 ?_
    cases hf
    exact xr_vret C hlk hr dX2_putOut_29
def f_X2_perform_120 (h : hp) (x3 : Int32) (x4 : Int32) (x5 : Int32) : Option hp := gd (¬ ((f_X2_fieldB x3) < 0 ∨ 8 ≤ (f_X2_fieldB x3).toNatClampNeg)) (gd (¬ ((f_X2_fieldC x3) < 0 ∨ 8 ≤ (f_X2_fieldC x3).toNatClampNeg)) (gd (¬ (x5 < 0 ∨ 8 ≤ x5.toNatClampNeg)) (some (u2 h 2 x5.toNatClampNeg (f_X2_compute x4 (h 2 (f_X2_fieldB x3).toNatClampNeg) (h 2 (f_X2_fieldC x3).toNatClampNeg))))))
def f_X2_perform_258 (h : hp) (x3 : Int32) (x4 : Int32) (x5 : Int32) : Option hp := gd (¬ (x5 < 0 ∨ 8 ≤ x5.toNatClampNeg)) (bV (f_X2_jump h x4 (h 2 x5.toNatClampNeg) (f_X5_placeOf (f_X2_signedHalf x3))) (fun hh29 => some hh29))
def f_X2_perform (h : hp) (x1 : Int32) (x2 : Int32) : Option hp := gd (¬ ((h 1 3) < 0 ∨ 512 ≤ (h 1 3).toNatClampNeg)) (gl (h 3 (h 1 3).toNatClampNeg) (fun v2 => gl ((v2.toUInt32 >>> ((24 : Int32).toUInt32 &&& Int32.toUInt32 31)).toInt32) (fun v3 => gl (f_X2_fieldA v2) (fun v4 => if v3 = 1 then (f_X2_perform_120 (u2 h 1 3 (f_X5_placeOf ((h 1 3) + 1))) v2 v3 v4) else (if v3 = 2 then (f_X2_perform_120 (u2 h 1 3 (f_X5_placeOf ((h 1 3) + 1))) v2 v3 v4) else (if v3 = 3 then (f_X2_perform_120 (u2 h 1 3 (f_X5_placeOf ((h 1 3) + 1))) v2 v3 v4) else (if v3 = 4 then (f_X2_perform_120 (u2 h 1 3 (f_X5_placeOf ((h 1 3) + 1))) v2 v3 v4) else (if v3 = 5 then (f_X2_perform_120 (u2 h 1 3 (f_X5_placeOf ((h 1 3) + 1))) v2 v3 v4) else (if v3 = 6 then (gd (¬ (v4 < 0 ∨ 8 ≤ v4.toNatClampNeg)) (some (u2 (u2 h 1 3 (f_X5_placeOf ((h 1 3) + 1))) 2 v4.toNatClampNeg (f_X2_signedHalf v2)))) else (if v3 = 7 then (bR (f_X2_target (u2 h 1 3 (f_X5_placeOf ((h 1 3) + 1))) v2) (fun rr17 => gd (¬ (rr17 < 0 ∨ 512 ≤ rr17.toNatClampNeg)) (gd (¬ (v4 < 0 ∨ 8 ≤ v4.toNatClampNeg)) (some (u2 (u2 h 1 3 (f_X5_placeOf ((h 1 3) + 1))) 2 v4.toNatClampNeg (h 3 rr17.toNatClampNeg)))))) else (if v3 = 8 then (bR (f_X2_target (u2 h 1 3 (f_X5_placeOf ((h 1 3) + 1))) v2) (fun rr22 => gd (¬ (v4 < 0 ∨ 8 ≤ v4.toNatClampNeg)) (bV (f_X2_store (u2 h 1 3 (f_X5_placeOf ((h 1 3) + 1))) rr22 (h 2 v4.toNatClampNeg)) (fun hh25 => some hh25)))) else (if v3 = 9 then (f_X2_perform_258 (u2 h 1 3 (f_X5_placeOf ((h 1 3) + 1))) v2 v3 v4) else (if v3 = 10 then (f_X2_perform_258 (u2 h 1 3 (f_X5_placeOf ((h 1 3) + 1))) v2 v3 v4) else (if v3 = 11 then (f_X2_perform_258 (u2 h 1 3 (f_X5_placeOf ((h 1 3) + 1))) v2 v3 v4) else (if v3 = 12 then (gd (¬ (v4 < 0 ∨ 8 ≤ v4.toNatClampNeg)) (some (u2 (u2 h 1 3 (f_X5_placeOf ((h 1 3) + 1))) 2 v4.toNatClampNeg x2))) else (if v3 = 13 then (gd (¬ (v4 < 0 ∨ 8 ≤ v4.toNatClampNeg)) (bV (f_X2_putOut (u2 h 1 3 (f_X5_placeOf ((h 1 3) + 1))) (h 2 v4.toNatClampNeg)) (fun hh37 => some hh37))) else (if v3 = 14 then (gd (¬ (v4 < 0 ∨ 8 ≤ v4.toNatClampNeg)) (some (u2 (u2 h 1 3 (f_X5_placeOf ((h 1 3) + 1))) 2 v4.toNatClampNeg x1))) else (if v3 = 15 then (f_X2_perform_258 (u2 h 1 3 (f_X5_placeOf ((h 1 3) + 1))) v2 v3 v4) else (if v3 = 16 then (some (u2 (u2 h 1 3 (f_X5_placeOf ((h 1 3) + 1))) 1 5 1)) else (if v3 = 17 then (some (u2 (u2 h 1 3 (f_X5_placeOf ((h 1 3) + 1))) 1 5 0)) else (f_X2_perform_258 (u2 h 1 3 (f_X5_placeOf ((h 1 3) + 1))) v2 v3 v4)))))))))))))))))))))
abbrev rmX2_perform : Room := { frames := 2, cells := 0, slots := 0, locals := 43 }
set_option maxHeartbeats 4000000 in
set_option maxRecDepth 100000 in
theorem c_X2_perform (l : Launch) (dC : Nat → ClassId) (dI : Nat → Nat → Nat) (cI cS : ClassId) (a : Nat → Nat) (hD : xD 95 a) (h : hp) (x1 : Int32) (x2 : Int32) {h9 : hp} (hf : f_X2_perform h x1 x2 = some h9) : XMv l yX2_perform wsX2_perform rmX2_perform (dC, dI) vwCl (kty cI cS) 95 a (kcf cI cS a) h [.ref (a 1), .int x1, .int x2] h9 := by
  refine xm_v (cc := cX2_perform) (maxL := 6) (ws' := wsX2_perform.tail) (by decide) rfl hD (Nat.le_of_ble_eq_true rfl) [(0, .ref (a 1)), (1, .int x1), (2, .int x2)] rfl RX2 rfl ?_
  intro p e s m args below meth c C hlk hr
  have wl15 : Cond.fieldLink RX2 15 "RewindBox$Machine" "memory" "[I" ∈ wsX2_perform := by decide +kernel
  have wnX2 : ∀ w ∈ u_ws RX2 TX2 8, w ∈ wsX2_perform := by decide +kernel
  have wl27 : Cond.fieldLink RX2 27 "RewindBox$Machine" "pc" "I" ∈ wsX2_perform := by decide +kernel
  have wiX5 : Cond.initialized RX5 ∈ wsX2_perform := by decide +kernel
  have wtX5_placeOf : Cond.static yX5_placeOf ∈ wsX2_perform := by decide +kernel
  have wl9 : Cond.fieldLink RX2 9 "RewindBox$Machine" "registers" "[I" ∈ wsX2_perform := by decide +kernel
  have wl34 : Cond.fieldLink RX2 34 "RewindBox$Machine" "open" "Z" ∈ wsX2_perform := by decide +kernel
  have lab120 : ∀ (h : hp) (x3 : Int32) (x4 : Int32) (x5 : Int32) , f_X2_perform_120 h x3 x4 x5 = some h9 → XJ p l e rmX2_perform s m args below meth c (dC, dI) vwCl 95 a (kcf cI cS a) 6 (MQ below (XQv (dC, dI) vwCl 95 a (kcf cI cS a) h9) args s 0 0 (xA 95 a)) h [(0, .ref (a 1)), (3, .int x3), (4, .int x4), (5, .int x5)] [] 120 := by
    intro h x3 x4 x5  hf
    unfold f_X2_perform_120 at hf
    refine xr_aload_n C dX2_perform_120 0 rfl rfl ?_
    refine xr_get C (ci := 2) (Cn := RX2) (T := TX2) (N := 8) (v := .ref (a 2)) 1 (by decide) rfl rfl 0 (by decide) wnX2 wl9 rfl rfl dX2_perform_121 ?_
    refine xr_iload C dX2_perform_124 3 rfl ?_
    refine xr_iload C dX2_perform_126 2 rfl ?_
    refine xr_aload_n C dX2_perform_128 0 rfl rfl ?_
    refine xr_get C (ci := 2) (Cn := RX2) (T := TX2) (N := 8) (v := .ref (a 2)) 1 (by decide) rfl rfl 0 (by decide) wnX2 wl9 rfl rfl dX2_perform_129 ?_
    refine xr_iload_n C dX2_perform_132 1 rfl rfl ?_
    refine xr_callSi C [.int x3] [.ref (a 2), .int x4, .int x5, .ref (a 2)] (c_X2_fieldB l dC dI cI cS a hD h x3 rfl) (va_cwS 1 C.2.2.1 gX2_perform_X2_fieldB rfl rfl rfl (by decide +kernel) ⟨Nat.le_of_ble_eq_true rfl, Nat.le_of_ble_eq_true rfl⟩) rfl rfl (Nat.le_of_ble_eq_true rfl) dX2_perform_133 ?_
    obtain ⟨gg6, hf⟩ := gd_some hf
    refine xr_iald C (v := h 2 (f_X2_fieldB x3).toNatClampNeg) 2 (by decide) 0 rfl rfl gg6 rfl dX2_perform_136 ?_
    refine xr_aload_n C dX2_perform_137 0 rfl rfl ?_
    refine xr_get C (ci := 2) (Cn := RX2) (T := TX2) (N := 8) (v := .ref (a 2)) 1 (by decide) rfl rfl 0 (by decide) wnX2 wl9 rfl rfl dX2_perform_138 ?_
    refine xr_iload_n C dX2_perform_141 1 rfl rfl ?_
    refine xr_callSi C [.int x3] [.ref (a 2), .int (h 2 (f_X2_fieldB x3).toNatClampNeg), .int x4, .int x5, .ref (a 2)] (c_X2_fieldC l dC dI cI cS a hD h x3 rfl) (va_cwS 1 C.2.2.1 gX2_perform_X2_fieldC rfl rfl rfl (by decide +kernel) ⟨Nat.le_of_ble_eq_true rfl, Nat.le_of_ble_eq_true rfl⟩) rfl rfl (Nat.le_of_ble_eq_true rfl) dX2_perform_142 ?_
    obtain ⟨gg7, hf⟩ := gd_some hf
    refine xr_iald C (v := h 2 (f_X2_fieldC x3).toNatClampNeg) 2 (by decide) 0 rfl rfl gg7 rfl dX2_perform_145 ?_
    refine xr_callSi C [.int x4, .int (h 2 (f_X2_fieldB x3).toNatClampNeg), .int (h 2 (f_X2_fieldC x3).toNatClampNeg)] [.int x5, .ref (a 2)] (c_X2_compute l dC dI cI cS a hD h x4 (h 2 (f_X2_fieldB x3).toNatClampNeg) (h 2 (f_X2_fieldC x3).toNatClampNeg) rfl) (va_cwS 3 C.2.2.1 gX2_perform_X2_compute rfl rfl rfl (by decide +kernel) ⟨Nat.le_of_ble_eq_true rfl, Nat.le_of_ble_eq_true rfl⟩) rfl rfl (Nat.le_of_ble_eq_true rfl) dX2_perform_146 ?_
    obtain ⟨gg8, hf⟩ := gd_some hf
    refine xr_iast C 2 (by decide) 0 (fun _ => rfl) rfl gg8 dX2_perform_149 ?_
    refine xr_goto C 278 dX2_perform_150 (by decide) ?_
    cases hf
    exact xr_vret C hlk hr dX2_perform_278
  have lab258 : ∀ (h : hp) (x3 : Int32) (x4 : Int32) (x5 : Int32) , f_X2_perform_258 h x3 x4 x5 = some h9 → XJ p l e rmX2_perform s m args below meth c (dC, dI) vwCl 95 a (kcf cI cS a) 6 (MQ below (XQv (dC, dI) vwCl 95 a (kcf cI cS a) h9) args s 0 0 (xA 95 a)) h [(0, .ref (a 1)), (3, .int x3), (4, .int x4), (5, .int x5)] [] 258 := by
    intro h x3 x4 x5  hf
    unfold f_X2_perform_258 at hf
    refine xr_aload_n C dX2_perform_258 0 rfl rfl ?_
    refine xr_iload C dX2_perform_259 2 rfl ?_
    refine xr_aload_n C dX2_perform_261 0 rfl rfl ?_
    refine xr_get C (ci := 2) (Cn := RX2) (T := TX2) (N := 8) (v := .ref (a 2)) 1 (by decide) rfl rfl 0 (by decide) wnX2 wl9 rfl rfl dX2_perform_262 ?_
    refine xr_iload C dX2_perform_265 3 rfl ?_
    obtain ⟨gg27, hf⟩ := gd_some hf
    refine xr_iald C (v := h 2 x5.toNatClampNeg) 2 (by decide) 0 rfl rfl gg27 rfl dX2_perform_267 ?_
    refine xr_iload_n C dX2_perform_268 1 rfl rfl ?_
    refine xr_callSi C [.int x3] [.int (h 2 x5.toNatClampNeg), .int x4, .ref (a 1)] (c_X2_signedHalf l dC dI cI cS a hD h x3 rfl) (va_cwS 1 C.2.2.1 gX2_perform_X2_signedHalf rfl rfl rfl (by decide +kernel) ⟨Nat.le_of_ble_eq_true rfl, Nat.le_of_ble_eq_true rfl⟩) rfl rfl (Nat.le_of_ble_eq_true rfl) dX2_perform_269 ?_
    refine xr_callSNi C [.int (f_X2_signedHalf x3)] [.int (h 2 x5.toNatClampNeg), .int x4, .ref (a 1)] (c_X5_placeOf l dC dI cI cS a hD h (f_X2_signedHalf x3) rfl) ⟨va_cnB 1 C.2.2.1 gX2_perform_X5_placeOf_n58 rfl rfl rfl (C.2.2.2.2.1.2 _ List.mem_cons_self) (C.2.2.1 _ wiX5) (by decide +kernel) ⟨Nat.le_of_ble_eq_true rfl, Nat.le_of_ble_eq_true rfl⟩, C.2.2.1 _ wtX5_placeOf, trivial⟩ rfl rfl (Nat.le_of_ble_eq_true rfl) dX2_perform_272 ?_
    obtain ⟨hh29, ee28, hf⟩ := bV_some hf
    refine xr_callVv C (Cn := RX2) 1 (by decide) rfl rfl [.int x4, .int (h 2 x5.toNatClampNeg), .int (f_X5_placeOf (f_X2_signedHalf x3))] [] (c_X2_jump l dC dI cI cS a hD h x4 (h 2 x5.toNatClampNeg) (f_X5_placeOf (f_X2_signedHalf x3)) ee28) (cwV 3 C.2.2.1 gX2_perform_X2_jump rfl rfl rfl (by decide +kernel) ⟨Nat.le_of_ble_eq_true rfl, Nat.le_of_ble_eq_true rfl⟩) rfl rfl (Nat.le_of_ble_eq_true rfl) dX2_perform_275 ?_
    cases hf
    exact xr_vret C hlk hr dX2_perform_278
  unfold f_X2_perform at hf
  refine xr_aload_n C dX2_perform_0 0 rfl rfl ?_
  refine xr_get C (ci := 2) (Cn := RX2) (T := TX2) (N := 8) (v := .ref (a 3)) 1 (by decide) rfl rfl 1 (by decide) wnX2 wl15 rfl rfl dX2_perform_1 ?_
  refine xr_aload_n C dX2_perform_4 0 rfl rfl ?_
  refine xr_get C (ci := 2) (Cn := RX2) (T := TX2) (N := 8) (v := .int (h 1 3)) 1 (by decide) rfl rfl 3 (by decide) wnX2 wl27 rfl rfl dX2_perform_5 ?_
  obtain ⟨gg1, hf⟩ := gd_some hf
  refine xr_iald C (v := h 3 (h 1 3).toNatClampNeg) 3 (by decide) 0 rfl rfl gg1 rfl dX2_perform_8 ?_
  refine xr_topi C (fun v2 ev2 => ?_)
  have hf := gl_at hf v2 ev2
  refine xr_istore_n C [(3, .int v2), (0, .ref (a 1)), (1, .int x1), (2, .int x2)] dX2_perform_9 rfl (by decide) rfl ?_
  refine xr_iload_n C dX2_perform_10 0 rfl rfl ?_
  refine xr_bipush C (v := 24) dX2_perform_11 (by decide +kernel) ?_
  refine xr_iushr C dX2_perform_13 ?_
  refine xr_topi C (fun v3 ev3 => ?_)
  have hf := gl_at hf v3 ev3
  refine xr_istore C [(4, .int v3), (3, .int v2), (0, .ref (a 1)), (1, .int x1), (2, .int x2)] dX2_perform_14 (by decide) rfl ?_
  refine xr_iload_n C dX2_perform_16 1 rfl rfl ?_
  refine xr_callSi C [.int v2] [] (c_X2_fieldA l dC dI cI cS a hD h v2 rfl) (va_cwS 1 C.2.2.1 gX2_perform_X2_fieldA rfl rfl rfl (by decide +kernel) ⟨Nat.le_of_ble_eq_true rfl, Nat.le_of_ble_eq_true rfl⟩) rfl rfl (Nat.le_of_ble_eq_true rfl) dX2_perform_17 ?_
  refine xr_topi C (fun v4 ev4 => ?_)
  have hf := gl_at hf v4 ev4
  refine xr_istore C [(5, .int v4), (4, .int v3), (3, .int v2), (0, .ref (a 1)), (1, .int x1), (2, .int x2)] dX2_perform_20 (by decide) rfl ?_
  refine xr_aload_n C dX2_perform_22 3 rfl rfl ?_
  refine xr_aload_n C dX2_perform_23 3 rfl rfl ?_
  refine xr_get C (ci := 2) (Cn := RX2) (T := TX2) (N := 8) (v := .int (h 1 3)) 1 (by decide) rfl rfl 3 (by decide) wnX2 wl27 rfl rfl dX2_perform_24 ?_
  refine xr_iconst C (v := 1) dX2_perform_27 (by decide +kernel) ?_
  refine xr_iadd C dX2_perform_28 ?_
  refine xr_callSNi C [.int ((h 1 3) + 1)] [.ref (a 1)] (c_X5_placeOf l dC dI cI cS a hD h ((h 1 3) + 1) rfl) ⟨va_cnB 1 C.2.2.1 gX2_perform_X5_placeOf_n58 rfl rfl rfl (C.2.2.2.2.1.2 _ List.mem_cons_self) (C.2.2.1 _ wiX5) (by decide +kernel) ⟨Nat.le_of_ble_eq_true rfl, Nat.le_of_ble_eq_true rfl⟩, C.2.2.1 _ wtX5_placeOf, trivial⟩ rfl rfl (Nat.le_of_ble_eq_true rfl) dX2_perform_29 ?_
  refine xr_put C (ci := 2) (Cn := RX2) (T := TX2) (N := 8) (ty := .int) (v := (f_X5_placeOf ((h 1 3) + 1))) 1 (by decide) rfl rfl 3 (by decide) wnX2 wl27 rfl tyX2 tyX2_ok nmX2 rfl (by decide +kernel) rfl rfl (Nat.le_of_ble_eq_true rfl) rfl dX2_perform_32 ?_
  refine xr_iload C dX2_perform_35 1 rfl ?_
  by_cases cd5 : v3 = 1
  · rw [if_pos cd5] at hf
    refine xr_tableIn C 120 1 dX2_perform_37 (by rw [cd5]; decide) (by decide) (by decide) rfl (by decide) ?_
    exact xr_sub C [3, 2, 1, 0] rfl (lab120 (u2 h 1 3 (f_X5_placeOf ((h 1 3) + 1))) v2 v3 v4  hf)
  rw [if_neg cd5] at hf
  by_cases cd9 : v3 = 2
  · rw [if_pos cd9] at hf
    refine xr_tableIn C 120 2 dX2_perform_37 (by rw [cd9]; decide) (by decide) (by decide) rfl (by decide) ?_
    exact xr_sub C [3, 2, 1, 0] rfl (lab120 (u2 h 1 3 (f_X5_placeOf ((h 1 3) + 1))) v2 v3 v4  hf)
  rw [if_neg cd9] at hf
  by_cases cd10 : v3 = 3
  · rw [if_pos cd10] at hf
    refine xr_tableIn C 120 3 dX2_perform_37 (by rw [cd10]; decide) (by decide) (by decide) rfl (by decide) ?_
    exact xr_sub C [3, 2, 1, 0] rfl (lab120 (u2 h 1 3 (f_X5_placeOf ((h 1 3) + 1))) v2 v3 v4  hf)
  rw [if_neg cd10] at hf
  by_cases cd11 : v3 = 4
  · rw [if_pos cd11] at hf
    refine xr_tableIn C 120 4 dX2_perform_37 (by rw [cd11]; decide) (by decide) (by decide) rfl (by decide) ?_
    exact xr_sub C [3, 2, 1, 0] rfl (lab120 (u2 h 1 3 (f_X5_placeOf ((h 1 3) + 1))) v2 v3 v4  hf)
  rw [if_neg cd11] at hf
  by_cases cd12 : v3 = 5
  · rw [if_pos cd12] at hf
    refine xr_tableIn C 120 5 dX2_perform_37 (by rw [cd12]; decide) (by decide) (by decide) rfl (by decide) ?_
    exact xr_sub C [3, 2, 1, 0] rfl (lab120 (u2 h 1 3 (f_X5_placeOf ((h 1 3) + 1))) v2 v3 v4  hf)
  rw [if_neg cd12] at hf
  by_cases cd13 : v3 = 6
  · rw [if_pos cd13] at hf
    refine xr_tableIn C 153 6 dX2_perform_37 (by rw [cd13]; decide) (by decide) (by decide) rfl (by decide) ?_
    refine xr_aload_n C dX2_perform_153 3 rfl rfl ?_
    refine xr_get C (ci := 2) (Cn := RX2) (T := TX2) (N := 8) (v := .ref (a 2)) 1 (by decide) rfl rfl 0 (by decide) wnX2 wl9 rfl rfl dX2_perform_154 ?_
    refine xr_iload C dX2_perform_157 0 rfl ?_
    refine xr_iload_n C dX2_perform_159 2 rfl rfl ?_
    refine xr_callSi C [.int v2] [.int v4, .ref (a 2)] (c_X2_signedHalf l dC dI cI cS a hD (u2 h 1 3 (f_X5_placeOf ((h 1 3) + 1))) v2 rfl) (va_cwS 1 C.2.2.1 gX2_perform_X2_signedHalf rfl rfl rfl (by decide +kernel) ⟨Nat.le_of_ble_eq_true rfl, Nat.le_of_ble_eq_true rfl⟩) rfl rfl (Nat.le_of_ble_eq_true rfl) dX2_perform_160 ?_
    obtain ⟨gg14, hf⟩ := gd_some hf
    refine xr_iast C 2 (by decide) 0 (fun _ => rfl) rfl gg14 dX2_perform_163 ?_
    refine xr_goto C 278 dX2_perform_164 (by decide) ?_
    cases hf
    exact xr_vret C hlk hr dX2_perform_278
  rw [if_neg cd13] at hf
  by_cases cd15 : v3 = 7
  · rw [if_pos cd15] at hf
    refine xr_tableIn C 167 7 dX2_perform_37 (by rw [cd15]; decide) (by decide) (by decide) rfl (by decide) ?_
    refine xr_aload_n C dX2_perform_167 3 rfl rfl ?_
    refine xr_get C (ci := 2) (Cn := RX2) (T := TX2) (N := 8) (v := .ref (a 2)) 1 (by decide) rfl rfl 0 (by decide) wnX2 wl9 rfl rfl dX2_perform_168 ?_
    refine xr_iload C dX2_perform_171 0 rfl ?_
    refine xr_aload_n C dX2_perform_173 3 rfl rfl ?_
    refine xr_get C (ci := 2) (Cn := RX2) (T := TX2) (N := 8) (v := .ref (a 3)) 1 (by decide) rfl rfl 1 (by decide) wnX2 wl15 rfl rfl dX2_perform_174 ?_
    refine xr_aload_n C dX2_perform_177 3 rfl rfl ?_
    refine xr_iload_n C dX2_perform_178 2 rfl rfl ?_
    obtain ⟨rr17, ee16, hf⟩ := bR_some hf
    refine xr_callVi C (Cn := RX2) 1 (by decide) rfl rfl [.int v2] [.ref (a 3), .int v4, .ref (a 2)] (c_X2_target l dC dI cI cS a hD (u2 h 1 3 (f_X5_placeOf ((h 1 3) + 1))) v2 ee16) (cwV 1 C.2.2.1 gX2_perform_X2_target rfl rfl rfl (by decide +kernel) ⟨Nat.le_of_ble_eq_true rfl, Nat.le_of_ble_eq_true rfl⟩) rfl rfl (Nat.le_of_ble_eq_true rfl) dX2_perform_179 ?_
    obtain ⟨gg18, hf⟩ := gd_some hf
    refine xr_iald C (v := h 3 rr17.toNatClampNeg) 3 (by decide) 0 rfl rfl gg18 rfl dX2_perform_182 ?_
    obtain ⟨gg19, hf⟩ := gd_some hf
    refine xr_iast C 2 (by decide) 0 (fun _ => rfl) rfl gg19 dX2_perform_183 ?_
    refine xr_goto C 278 dX2_perform_184 (by decide) ?_
    cases hf
    exact xr_vret C hlk hr dX2_perform_278
  rw [if_neg cd15] at hf
  by_cases cd20 : v3 = 8
  · rw [if_pos cd20] at hf
    refine xr_tableIn C 187 8 dX2_perform_37 (by rw [cd20]; decide) (by decide) (by decide) rfl (by decide) ?_
    refine xr_aload_n C dX2_perform_187 3 rfl rfl ?_
    refine xr_aload_n C dX2_perform_188 3 rfl rfl ?_
    refine xr_iload_n C dX2_perform_189 2 rfl rfl ?_
    obtain ⟨rr22, ee21, hf⟩ := bR_some hf
    refine xr_callVi C (Cn := RX2) 1 (by decide) rfl rfl [.int v2] [.ref (a 1)] (c_X2_target l dC dI cI cS a hD (u2 h 1 3 (f_X5_placeOf ((h 1 3) + 1))) v2 ee21) (cwV 1 C.2.2.1 gX2_perform_X2_target rfl rfl rfl (by decide +kernel) ⟨Nat.le_of_ble_eq_true rfl, Nat.le_of_ble_eq_true rfl⟩) rfl rfl (Nat.le_of_ble_eq_true rfl) dX2_perform_190 ?_
    refine xr_aload_n C dX2_perform_193 3 rfl rfl ?_
    refine xr_get C (ci := 2) (Cn := RX2) (T := TX2) (N := 8) (v := .ref (a 2)) 1 (by decide) rfl rfl 0 (by decide) wnX2 wl9 rfl rfl dX2_perform_194 ?_
    refine xr_iload C dX2_perform_197 0 rfl ?_
    obtain ⟨gg23, hf⟩ := gd_some hf
    refine xr_iald C (v := h 2 v4.toNatClampNeg) 2 (by decide) 0 rfl rfl gg23 rfl dX2_perform_199 ?_
    obtain ⟨hh25, ee24, hf⟩ := bV_some hf
    refine xr_callVv C (Cn := RX2) 1 (by decide) rfl rfl [.int rr22, .int (h 2 v4.toNatClampNeg)] [] (c_X2_store l dC dI cI cS a hD (u2 h 1 3 (f_X5_placeOf ((h 1 3) + 1))) rr22 (h 2 v4.toNatClampNeg) ee24) (cwV 2 C.2.2.1 gX2_perform_X2_store rfl rfl rfl (by decide +kernel) ⟨Nat.le_of_ble_eq_true rfl, Nat.le_of_ble_eq_true rfl⟩) rfl rfl (Nat.le_of_ble_eq_true rfl) dX2_perform_200 ?_
    refine xr_goto C 278 dX2_perform_203 (by decide) ?_
    cases hf
    exact xr_vret C hlk hr dX2_perform_278
  rw [if_neg cd20] at hf
  by_cases cd26 : v3 = 9
  · rw [if_pos cd26] at hf
    refine xr_tableIn C 258 9 dX2_perform_37 (by rw [cd26]; decide) (by decide) (by decide) rfl (by decide) ?_
    exact xr_sub C [3, 2, 1, 0] rfl (lab258 (u2 h 1 3 (f_X5_placeOf ((h 1 3) + 1))) v2 v3 v4  hf)
  rw [if_neg cd26] at hf
  by_cases cd30 : v3 = 10
  · rw [if_pos cd30] at hf
    refine xr_tableIn C 258 10 dX2_perform_37 (by rw [cd30]; decide) (by decide) (by decide) rfl (by decide) ?_
    exact xr_sub C [3, 2, 1, 0] rfl (lab258 (u2 h 1 3 (f_X5_placeOf ((h 1 3) + 1))) v2 v3 v4  hf)
  rw [if_neg cd30] at hf
  by_cases cd31 : v3 = 11
  · rw [if_pos cd31] at hf
    refine xr_tableIn C 258 11 dX2_perform_37 (by rw [cd31]; decide) (by decide) (by decide) rfl (by decide) ?_
    exact xr_sub C [3, 2, 1, 0] rfl (lab258 (u2 h 1 3 (f_X5_placeOf ((h 1 3) + 1))) v2 v3 v4  hf)
  rw [if_neg cd31] at hf
  by_cases cd32 : v3 = 12
  · rw [if_pos cd32] at hf
    refine xr_tableIn C 206 12 dX2_perform_37 (by rw [cd32]; decide) (by decide) (by decide) rfl (by decide) ?_
    refine xr_aload_n C dX2_perform_206 3 rfl rfl ?_
    refine xr_get C (ci := 2) (Cn := RX2) (T := TX2) (N := 8) (v := .ref (a 2)) 1 (by decide) rfl rfl 0 (by decide) wnX2 wl9 rfl rfl dX2_perform_207 ?_
    refine xr_iload C dX2_perform_210 0 rfl ?_
    refine xr_iload_n C dX2_perform_212 5 rfl rfl ?_
    obtain ⟨gg33, hf⟩ := gd_some hf
    refine xr_iast C 2 (by decide) 0 (fun _ => rfl) rfl gg33 dX2_perform_213 ?_
    refine xr_goto C 278 dX2_perform_214 (by decide) ?_
    cases hf
    exact xr_vret C hlk hr dX2_perform_278
  rw [if_neg cd32] at hf
  by_cases cd34 : v3 = 13
  · rw [if_pos cd34] at hf
    refine xr_tableIn C 217 13 dX2_perform_37 (by rw [cd34]; decide) (by decide) (by decide) rfl (by decide) ?_
    refine xr_aload_n C dX2_perform_217 3 rfl rfl ?_
    refine xr_aload_n C dX2_perform_218 3 rfl rfl ?_
    refine xr_get C (ci := 2) (Cn := RX2) (T := TX2) (N := 8) (v := .ref (a 2)) 1 (by decide) rfl rfl 0 (by decide) wnX2 wl9 rfl rfl dX2_perform_219 ?_
    refine xr_iload C dX2_perform_222 0 rfl ?_
    obtain ⟨gg35, hf⟩ := gd_some hf
    refine xr_iald C (v := h 2 v4.toNatClampNeg) 2 (by decide) 0 rfl rfl gg35 rfl dX2_perform_224 ?_
    obtain ⟨hh37, ee36, hf⟩ := bV_some hf
    refine xr_callVv C (Cn := RX2) 1 (by decide) rfl rfl [.int (h 2 v4.toNatClampNeg)] [] (c_X2_putOut l dC dI cI cS a hD (u2 h 1 3 (f_X5_placeOf ((h 1 3) + 1))) (h 2 v4.toNatClampNeg) ee36) (cwV 1 C.2.2.1 gX2_perform_X2_putOut rfl rfl rfl (by decide +kernel) ⟨Nat.le_of_ble_eq_true rfl, Nat.le_of_ble_eq_true rfl⟩) rfl rfl (Nat.le_of_ble_eq_true rfl) dX2_perform_225 ?_
    refine xr_goto C 278 dX2_perform_228 (by decide) ?_
    cases hf
    exact xr_vret C hlk hr dX2_perform_278
  rw [if_neg cd34] at hf
  by_cases cd38 : v3 = 14
  · rw [if_pos cd38] at hf
    refine xr_tableIn C 231 14 dX2_perform_37 (by rw [cd38]; decide) (by decide) (by decide) rfl (by decide) ?_
    refine xr_aload_n C dX2_perform_231 3 rfl rfl ?_
    refine xr_get C (ci := 2) (Cn := RX2) (T := TX2) (N := 8) (v := .ref (a 2)) 1 (by decide) rfl rfl 0 (by decide) wnX2 wl9 rfl rfl dX2_perform_232 ?_
    refine xr_iload C dX2_perform_235 0 rfl ?_
    refine xr_iload_n C dX2_perform_237 4 rfl rfl ?_
    obtain ⟨gg39, hf⟩ := gd_some hf
    refine xr_iast C 2 (by decide) 0 (fun _ => rfl) rfl gg39 dX2_perform_238 ?_
    refine xr_goto C 278 dX2_perform_239 (by decide) ?_
    cases hf
    exact xr_vret C hlk hr dX2_perform_278
  rw [if_neg cd38] at hf
  by_cases cd40 : v3 = 15
  · rw [if_pos cd40] at hf
    refine xr_tableIn C 258 15 dX2_perform_37 (by rw [cd40]; decide) (by decide) (by decide) rfl (by decide) ?_
    exact xr_sub C [3, 2, 1, 0] rfl (lab258 (u2 h 1 3 (f_X5_placeOf ((h 1 3) + 1))) v2 v3 v4  hf)
  rw [if_neg cd40] at hf
  by_cases cd41 : v3 = 16
  · rw [if_pos cd41] at hf
    refine xr_tableIn C 242 16 dX2_perform_37 (by rw [cd41]; decide) (by decide) (by decide) rfl (by decide) ?_
    refine xr_aload_n C dX2_perform_242 3 rfl rfl ?_
    refine xr_iconst C (v := 1) dX2_perform_243 (by decide +kernel) ?_
    refine xr_put C (ci := 2) (Cn := RX2) (T := TX2) (N := 8) (ty := .boolean) (v := 1) 1 (by decide) rfl rfl 5 (by decide) wnX2 wl34 rfl tyX2 tyX2_ok nmX2 rfl (by decide +kernel) (by decide +kernel) (by decide +kernel) (Nat.le_of_ble_eq_true rfl) rfl dX2_perform_244 ?_
    refine xr_goto C 278 dX2_perform_247 (by decide) ?_
    cases hf
    exact xr_vret C hlk hr dX2_perform_278
  rw [if_neg cd41] at hf
  by_cases cd42 : v3 = 17
  · rw [if_pos cd42] at hf
    refine xr_tableIn C 250 17 dX2_perform_37 (by rw [cd42]; decide) (by decide) (by decide) rfl (by decide) ?_
    refine xr_aload_n C dX2_perform_250 3 rfl rfl ?_
    refine xr_iconst C (v := 0) dX2_perform_251 (by decide +kernel) ?_
    refine xr_put C (ci := 2) (Cn := RX2) (T := TX2) (N := 8) (ty := .boolean) (v := 0) 1 (by decide) rfl rfl 5 (by decide) wnX2 wl34 rfl tyX2 tyX2_ok nmX2 rfl (by decide +kernel) (by decide +kernel) (by decide +kernel) (Nat.le_of_ble_eq_true rfl) rfl dX2_perform_252 ?_
    refine xr_goto C 278 dX2_perform_255 (by decide) ?_
    cases hf
    exact xr_vret C hlk hr dX2_perform_278
  rw [if_neg cd42] at hf
  refine xr_tableOut C 258 dX2_perform_37 (by have qcd5 := lv_neT cd5 (show Int32.toInt 1 = 1 from by decide); have qcd9 := lv_neT cd9 (show Int32.toInt 2 = 2 from by decide); have qcd10 := lv_neT cd10 (show Int32.toInt 3 = 3 from by decide); have qcd11 := lv_neT cd11 (show Int32.toInt 4 = 4 from by decide); have qcd12 := lv_neT cd12 (show Int32.toInt 5 = 5 from by decide); have qcd13 := lv_neT cd13 (show Int32.toInt 6 = 6 from by decide); have qcd15 := lv_neT cd15 (show Int32.toInt 7 = 7 from by decide); have qcd20 := lv_neT cd20 (show Int32.toInt 8 = 8 from by decide); have qcd26 := lv_neT cd26 (show Int32.toInt 9 = 9 from by decide); have qcd30 := lv_neT cd30 (show Int32.toInt 10 = 10 from by decide); have qcd31 := lv_neT cd31 (show Int32.toInt 11 = 11 from by decide); have qcd32 := lv_neT cd32 (show Int32.toInt 12 = 12 from by decide); have qcd34 := lv_neT cd34 (show Int32.toInt 13 = 13 from by decide); have qcd38 := lv_neT cd38 (show Int32.toInt 14 = 14 from by decide); have qcd40 := lv_neT cd40 (show Int32.toInt 15 = 15 from by decide); have qcd41 := lv_neT cd41 (show Int32.toInt 16 = 16 from by decide); have qcd42 := lv_neT cd42 (show Int32.toInt 17 = 17 from by decide); omega) (by decide) ?_
  exact xr_sub C [3, 2, 1, 0] rfl (lab258 (u2 h 1 3 (f_X5_placeOf ((h 1 3) + 1))) v2 v3 v4  hf)
