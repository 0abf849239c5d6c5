def f_X5_poke (h : hp) (x1 : Int32) (x2 : Int32) : Option (Int32 × hp) := if h 0 5 = 0 then (if (f_X5_isPlace x1) = 0 then (some (0, h)) else (gd (¬ (x1 < 0 ∨ 512 ≤ x1.toNatClampNeg)) (some (1, (u2 h 3 x1.toNatClampNeg x2))))) else (some (0, h))
abbrev rmX5_poke : Room := { frames := 1, cells := 0, slots := 0, locals := 20 }
set_option maxHeartbeats 4000000 in
set_option maxRecDepth 100000 in
theorem c_X5_poke (l : Launch) (dC : Nat → ClassId) (dI : Nat → Nat → Nat) (cI cS : ClassId) (a : Nat → Nat) (hD : xD 95 a) (h : hp) (x1 : Int32) (x2 : Int32) {r9 : Int32} {h9 : hp} (hf : f_X5_poke h x1 x2 = some (r9, h9)) : XMi l yX5_poke wsX5_poke rmX5_poke (dC, dI) vwCl (kty cI cS) 95 a (kcf cI cS a) h [.ref (a 0), .int x1, .int x2] r9 h9 := by
  refine xm_i (cc := cX5_poke) (maxL := 3) (ws' := wsX5_poke.tail) (by decide) rfl hD (Nat.le_of_ble_eq_true rfl) [(0, .ref (a 0)), (1, .int x1), (2, .int x2)] rfl RX5 rfl ?_
  intro p e s m args below meth c C hlk hr
  have wl50 : Cond.fieldLink RX5 50 "RewindBox" "recording" "Z" ∈ wsX5_poke := by decide +kernel
  have wnX5 : ∀ w ∈ u_ws RX5 TX5 9, w ∈ wsX5_poke := by decide +kernel
  have wl25 : Cond.fieldLink RX5 25 "RewindBox" "machine" "LRewindBox$Machine;" ∈ wsX5_poke := by decide +kernel
  have wl58 : Cond.fieldLink RX5 58 "RewindBox$Machine" "memory" "[I" ∈ wsX5_poke := by decide +kernel
  have wnX2 : ∀ w ∈ u_ws RX2 TX2 8, w ∈ wsX5_poke := by decide +kernel
  unfold f_X5_poke at hf
  refine xr_aload_n C dX5_poke_0 0 rfl rfl ?_
  refine xr_get C (ci := 5) (Cn := RX5) (T := TX5) (N := 9) (v := .int (h 0 5)) 0 (by decide) rfl rfl 5 (by decide) wnX5 wl50 rfl rfl dX5_poke_1 ?_
  refine xr_if_ne C 14 dX5_poke_4 (by decide) (fun cd1 => ?_) (fun cd1 => ?_)
  · rw [if_neg cd1] at hf
    refine xr_iconst C (v := 0) dX5_poke_14 (by decide +kernel) ?_
    cases hf
    exact xr_zret C hlk hr (by decide +kernel) dX5_poke_15
  · rw [if_pos cd1] at hf
    refine xr_iload_n C dX5_poke_7 1 rfl rfl ?_
    refine xr_callSi C [.int x1] [] (c_X5_isPlace l dC dI cI cS a hD h x1 rfl) (va_cwS 1 C.2.2.1 gX5_poke_X5_isPlace rfl rfl rfl (by decide +kernel) ⟨Nat.le_of_ble_eq_true rfl, Nat.le_of_ble_eq_true rfl⟩) rfl rfl (Nat.le_of_ble_eq_true rfl) dX5_poke_8 ?_
    refine xr_if_ne C 16 dX5_poke_11 (by decide) (fun cd2 => ?_) (fun cd2 => ?_)
    · rw [if_neg cd2] at hf
      refine xr_aload_n C dX5_poke_16 0 rfl rfl ?_
      refine xr_get C (ci := 5) (Cn := RX5) (T := TX5) (N := 9) (v := .ref (a 1)) 0 (by decide) rfl rfl 1 (by decide) wnX5 wl25 rfl rfl dX5_poke_17 ?_
      refine xr_get C (ci := 2) (Cn := RX2) (T := TX2) (N := 8) (v := .ref (a 3)) 1 (by decide) rfl rfl 1 (by decide) wnX2 wl58 rfl rfl dX5_poke_20 ?_
      refine xr_iload_n C dX5_poke_23 1 rfl rfl ?_
      refine xr_iload_n C dX5_poke_24 2 rfl rfl ?_
      obtain ⟨gg3, hf⟩ := gd_some hf
      refine xr_iast C 3 (by decide) 0 (fun _ => rfl) rfl gg3 dX5_poke_25 ?_
      refine xr_iconst C (v := 1) dX5_poke_26 (by decide +kernel) ?_
      cases hf
      exact xr_zret C hlk hr (by decide +kernel) dX5_poke_27
    · rw [if_pos cd2] at hf
      refine xr_iconst C (v := 0) dX5_poke_14 (by decide +kernel) ?_
      cases hf
      exact xr_zret C hlk hr (by decide +kernel) dX5_poke_15
def f_X5_start (h : hp)  : Option hp := bV (f_X2_reset h) (fun hh2 => bV (f_X0_clear hh2) (fun hh4 => bV (f_X4_begin (u2 hh4 7 3 0)) (fun hh6 => some (u2 (u2 (u2 (u2 hh6 0 5 1) 0 6 0) 0 7 0) 0 8 0))))
abbrev rmX5_start : Room := { frames := 4, cells := 0, slots := 0, locals := 83 }
set_option maxHeartbeats 4000000 in
set_option maxRecDepth 100000 in
theorem c_X5_start (l : Launch) (dC : Nat → ClassId) (dI : Nat → Nat → Nat) (cI cS : ClassId) (a : Nat → Nat) (hD : xD 95 a) (h : hp)  {h9 : hp} (hf : f_X5_start h  = some h9) : XMv l yX5_start wsX5_start rmX5_start (dC, dI) vwCl (kty cI cS) 95 a (kcf cI cS a) h [.ref (a 0)] h9 := by
  refine xm_v (cc := cX5_start) (maxL := 1) (ws' := wsX5_start.tail) (by decide) rfl hD (Nat.le_of_ble_eq_true rfl) [(0, .ref (a 0))] rfl RX5 rfl ?_
  intro p e s m args below meth c C hlk hr
  have wl25 : Cond.fieldLink RX5 25 "RewindBox" "machine" "LRewindBox$Machine;" ∈ wsX5_start := by decide +kernel
  have wnX5 : ∀ w ∈ u_ws RX5 TX5 9, w ∈ wsX5_start := by decide +kernel
  have wl32 : Cond.fieldLink RX5 32 "RewindBox" "inputs" "LRewindBox$Inputs;" ∈ wsX5_start := by decide +kernel
  have wl39 : Cond.fieldLink RX5 39 "RewindBox" "entries" "LRewindBox$Log;" ∈ wsX5_start := by decide +kernel
  have wl68 : Cond.fieldLink RX5 68 "RewindBox$Log" "count" "I" ∈ wsX5_start := by decide +kernel
  have wnX1 : ∀ w ∈ u_ws RX1 TX1 4, w ∈ wsX5_start := by decide +kernel
  have wl46 : Cond.fieldLink RX5 46 "RewindBox" "snapshots" "LRewindBox$Snapshots;" ∈ wsX5_start := by decide +kernel
  have wl50 : Cond.fieldLink RX5 50 "RewindBox" "recording" "Z" ∈ wsX5_start := by decide +kernel
  have wl75 : Cond.fieldLink RX5 75 "RewindBox" "ringCame" "Z" ∈ wsX5_start := by decide +kernel
  have wl78 : Cond.fieldLink RX5 78 "RewindBox" "now" "I" ∈ wsX5_start := by decide +kernel
  have wl81 : Cond.fieldLink RX5 81 "RewindBox" "end" "I" ∈ wsX5_start := by decide +kernel
  unfold f_X5_start at hf
  refine xr_aload_n C dX5_start_0 0 rfl rfl ?_
  refine xr_get C (ci := 5) (Cn := RX5) (T := TX5) (N := 9) (v := .ref (a 1)) 0 (by decide) rfl rfl 1 (by decide) wnX5 wl25 rfl rfl dX5_start_1 ?_
  obtain ⟨hh2, ee1, hf⟩ := bV_some hf
  refine xr_callVv C (Cn := RX2) 1 (by decide) rfl rfl [] [] (c_X2_reset l dC dI cI cS a hD h ee1) (cwV 0 C.2.2.1 gX5_start_X2_reset rfl rfl rfl (by decide +kernel) ⟨Nat.le_of_ble_eq_true rfl, Nat.le_of_ble_eq_true rfl⟩) rfl rfl (Nat.le_of_ble_eq_true rfl) dX5_start_4 ?_
  refine xr_aload_n C dX5_start_7 0 rfl rfl ?_
  refine xr_get C (ci := 5) (Cn := RX5) (T := TX5) (N := 9) (v := .ref (a 5)) 0 (by decide) rfl rfl 2 (by decide) wnX5 wl32 rfl rfl dX5_start_8 ?_
  obtain ⟨hh4, ee3, hf⟩ := bV_some hf
  refine xr_callVv C (Cn := RX0) 5 (by decide) rfl rfl [] [] (c_X0_clear l dC dI cI cS a hD hh2 ee3) (cwV 0 C.2.2.1 gX5_start_X0_clear rfl rfl rfl (by decide +kernel) ⟨Nat.le_of_ble_eq_true rfl, Nat.le_of_ble_eq_true rfl⟩) rfl rfl (Nat.le_of_ble_eq_true rfl) dX5_start_11 ?_
  refine xr_aload_n C dX5_start_14 0 rfl rfl ?_
  refine xr_get C (ci := 5) (Cn := RX5) (T := TX5) (N := 9) (v := .ref (a 7)) 0 (by decide) rfl rfl 3 (by decide) wnX5 wl39 rfl rfl dX5_start_15 ?_
  refine xr_iconst C (v := 0) dX5_start_18 (by decide +kernel) ?_
  refine xr_put C (ci := 1) (Cn := RX1) (T := TX1) (N := 4) (ty := .int) (v := 0) 7 (by decide) rfl rfl 3 (by decide) wnX1 wl68 rfl tyX1 tyX1_ok nmX1 rfl (by decide +kernel) rfl rfl (Nat.le_of_ble_eq_true rfl) rfl dX5_start_19 ?_
  refine xr_aload_n C dX5_start_22 0 rfl rfl ?_
  refine xr_get C (ci := 5) (Cn := RX5) (T := TX5) (N := 9) (v := .ref (a 11)) 0 (by decide) rfl rfl 4 (by decide) wnX5 wl46 rfl rfl dX5_start_23 ?_
  refine xr_aload_n C dX5_start_26 0 rfl rfl ?_
  refine xr_get C (ci := 5) (Cn := RX5) (T := TX5) (N := 9) (v := .ref (a 1)) 0 (by decide) rfl rfl 1 (by decide) wnX5 wl25 rfl rfl dX5_start_27 ?_
  obtain ⟨hh6, ee5, hf⟩ := bV_some hf
  refine xr_callVv C (Cn := RX4) 11 (by decide) rfl rfl [.ref (a 1)] [] (c_X4_begin l dC dI cI cS a hD (u2 hh4 7 3 0) ee5) (cwV 1 C.2.2.1 gX5_start_X4_begin rfl rfl rfl (by decide +kernel) ⟨Nat.le_of_ble_eq_true rfl, Nat.le_of_ble_eq_true rfl⟩) rfl rfl (Nat.le_of_ble_eq_true rfl) dX5_start_30 ?_
  refine xr_aload_n C dX5_start_33 0 rfl rfl ?_
  refine xr_iconst C (v := 1) dX5_start_34 (by decide +kernel) ?_
  refine xr_put C (ci := 5) (Cn := RX5) (T := TX5) (N := 9) (ty := .boolean) (v := 1) 0 (by decide) rfl rfl 5 (by decide) wnX5 wl50 rfl tyX5 tyX5_ok nmX5 rfl (by decide +kernel) (by decide +kernel) (by decide +kernel) (Nat.le_of_ble_eq_true rfl) rfl dX5_start_35 ?_
  refine xr_aload_n C dX5_start_38 0 rfl rfl ?_
  refine xr_iconst C (v := 0) dX5_start_39 (by decide +kernel) ?_
  refine xr_put C (ci := 5) (Cn := RX5) (T := TX5) (N := 9) (ty := .boolean) (v := 0) 0 (by decide) rfl rfl 6 (by decide) wnX5 wl75 rfl tyX5 tyX5_ok nmX5 rfl (by decide +kernel) (by decide +kernel) (by decide +kernel) (Nat.le_of_ble_eq_true rfl) rfl dX5_start_40 ?_
  refine xr_aload_n C dX5_start_43 0 rfl rfl ?_
  refine xr_iconst C (v := 0) dX5_start_44 (by decide +kernel) ?_
  refine xr_put C (ci := 5) (Cn := RX5) (T := TX5) (N := 9) (ty := .int) (v := 0) 0 (by decide) rfl rfl 7 (by decide) wnX5 wl78 rfl tyX5 tyX5_ok nmX5 rfl (by decide +kernel) rfl rfl (Nat.le_of_ble_eq_true rfl) rfl dX5_start_45 ?_
  refine xr_aload_n C dX5_start_48 0 rfl rfl ?_
  refine xr_iconst C (v := 0) dX5_start_49 (by decide +kernel) ?_
  refine xr_put C (ci := 5) (Cn := RX5) (T := TX5) (N := 9) (ty := .int) (v := 0) 0 (by decide) rfl rfl 8 (by decide) wnX5 wl81 rfl tyX5 tyX5_ok nmX5 rfl (by decide +kernel) rfl rfl (Nat.le_of_ble_eq_true rfl) rfl dX5_start_50 ?_
  cases hf
  exact xr_vret C hlk hr dX5_start_53
def f_X5_stop (h : hp)  : Option hp := some (u2 h 0 5 0)
abbrev rmX5_stop : Room := { frames := 0, cells := 0, slots := 0, locals := 0 }
set_option maxHeartbeats 4000000 in
set_option maxRecDepth 100000 in
theorem c_X5_stop (l : Launch) (dC : Nat → ClassId) (dI : Nat → Nat → Nat) (cI cS : ClassId) (a : Nat → Nat) (hD : xD 95 a) (h : hp)  {h9 : hp} (hf : f_X5_stop h  = some h9) : XMv l yX5_stop wsX5_stop rmX5_stop (dC, dI) vwCl (kty cI cS) 95 a (kcf cI cS a) h [.ref (a 0)] h9 := by
  refine xm_v (cc := cX5_stop) (maxL := 1) (ws' := wsX5_stop.tail) (by decide) rfl hD (Nat.le_of_ble_eq_true rfl) [(0, .ref (a 0))] rfl RX5 rfl ?_
  intro p e s m args below meth c C hlk hr
  have wl50 : Cond.fieldLink RX5 50 "RewindBox" "recording" "Z" ∈ wsX5_stop := by decide +kernel
  have wnX5 : ∀ w ∈ u_ws RX5 TX5 9, w ∈ wsX5_stop := by decide +kernel
  unfold f_X5_stop at hf
  refine xr_aload_n C dX5_stop_0 0 rfl rfl ?_
  refine xr_iconst C (v := 0) dX5_stop_1 (by decide +kernel) ?_
  refine xr_put C (ci := 5) (Cn := RX5) (T := TX5) (N := 9) (ty := .boolean) (v := 0) 0 (by decide) rfl rfl 5 (by decide) wnX5 wl50 rfl tyX5 tyX5_ok nmX5 rfl (by decide +kernel) (by decide +kernel) (by decide +kernel) (Nat.le_of_ble_eq_true rfl) rfl dX5_stop_2 ?_
  cases hf
  exact xr_vret C hlk hr dX5_stop_5
def f_X5_give (h : hp) (x1 : Int32) : Option (Int32 × hp) := if h 0 5 = 0 then (some ((-1), h)) else (if h 5 2 < 100 then (bV (f_X0_add h x1) (fun hh4 => some (hh4 5 2, hh4))) else (some ((-1), h)))
abbrev rmX5_give : Room := { frames := 1, cells := 0, slots := 0, locals := 21 }
set_option maxHeartbeats 4000000 in
set_option maxRecDepth 100000 in
theorem c_X5_give (l : Launch) (dC : Nat → ClassId) (dI : Nat → Nat → Nat) (cI cS : ClassId) (a : Nat → Nat) (hD : xD 95 a) (h : hp) (x1 : Int32) {r9 : Int32} {h9 : hp} (hf : f_X5_give h x1 = some (r9, h9)) : XMi l yX5_give wsX5_give rmX5_give (dC, dI) vwCl (kty cI cS) 95 a (kcf cI cS a) h [.ref (a 0), .int x1] r9 h9 := by
  refine xm_i (cc := cX5_give) (maxL := 2) (ws' := wsX5_give.tail) (by decide) rfl hD (Nat.le_of_ble_eq_true rfl) [(0, .ref (a 0)), (1, .int x1)] rfl RX5 rfl ?_
  intro p e s m args below meth c C hlk hr
  have wl50 : Cond.fieldLink RX5 50 "RewindBox" "recording" "Z" ∈ wsX5_give := by decide +kernel
  have wnX5 : ∀ w ∈ u_ws RX5 TX5 9, w ∈ wsX5_give := by decide +kernel
  have wl32 : Cond.fieldLink RX5 32 "RewindBox" "inputs" "LRewindBox$Inputs;" ∈ wsX5_give := by decide +kernel
  have wl84 : Cond.fieldLink RX5 84 "RewindBox$Inputs" "count" "I" ∈ wsX5_give := by decide +kernel
  have wnX0 : ∀ w ∈ u_ws RX0 TX0 3, w ∈ wsX5_give := by decide +kernel
  unfold f_X5_give at hf
  refine xr_aload_n C dX5_give_0 0 rfl rfl ?_
  refine xr_get C (ci := 5) (Cn := RX5) (T := TX5) (N := 9) (v := .int (h 0 5)) 0 (by decide) rfl rfl 5 (by decide) wnX5 wl50 rfl rfl dX5_give_1 ?_
  refine xr_if_eq C 19 dX5_give_4 (by decide) (fun cd1 => ?_) (fun cd1 => ?_)
  · rw [if_pos cd1] at hf
    refine xr_iconst C (v := (-1)) dX5_give_19 (by decide +kernel) ?_
    cases hf
    exact xr_iret C hlk hr dX5_give_20
  · rw [if_neg cd1] at hf
    refine xr_aload_n C dX5_give_7 0 rfl rfl ?_
    refine xr_get C (ci := 5) (Cn := RX5) (T := TX5) (N := 9) (v := .ref (a 5)) 0 (by decide) rfl rfl 2 (by decide) wnX5 wl32 rfl rfl dX5_give_8 ?_
    refine xr_get C (ci := 0) (Cn := RX0) (T := TX0) (N := 3) (v := .int (h 5 2)) 5 (by decide) rfl rfl 2 (by decide) wnX0 wl84 rfl rfl dX5_give_11 ?_
    refine xr_bipush C (v := 100) dX5_give_14 (by decide +kernel) ?_
    refine xr_icmp_lt C 21 dX5_give_16 (by decide) (fun cd2 => ?_) (fun cd2 => ?_)
    · rw [if_pos cd2] at hf
      refine xr_aload_n C dX5_give_21 0 rfl rfl ?_
      refine xr_get C (ci := 5) (Cn := RX5) (T := TX5) (N := 9) (v := .ref (a 5)) 0 (by decide) rfl rfl 2 (by decide) wnX5 wl32 rfl rfl dX5_give_22 ?_
      refine xr_iload_n C dX5_give_25 1 rfl rfl ?_
      obtain ⟨hh4, ee3, hf⟩ := bV_some hf
      refine xr_callVv C (Cn := RX0) 5 (by decide) rfl rfl [.int x1] [] (c_X0_add l dC dI cI cS a hD h x1 ee3) (cwV 1 C.2.2.1 gX5_give_X0_add rfl rfl rfl (by decide +kernel) ⟨Nat.le_of_ble_eq_true rfl, Nat.le_of_ble_eq_true rfl⟩) rfl rfl (Nat.le_of_ble_eq_true rfl) dX5_give_26 ?_
      refine xr_aload_n C dX5_give_29 0 rfl rfl ?_
      refine xr_get C (ci := 5) (Cn := RX5) (T := TX5) (N := 9) (v := .ref (a 5)) 0 (by decide) rfl rfl 2 (by decide) wnX5 wl32 rfl rfl dX5_give_30 ?_
      refine xr_get C (ci := 0) (Cn := RX0) (T := TX0) (N := 3) (v := .int (hh4 5 2)) 5 (by decide) rfl rfl 2 (by decide) wnX0 wl84 rfl rfl dX5_give_33 ?_
      cases hf
      exact xr_iret C hlk hr dX5_give_36
    · rw [if_neg cd2] at hf
      refine xr_iconst C (v := (-1)) dX5_give_19 (by decide +kernel) ?_
      cases hf
      exact xr_iret C hlk hr dX5_give_20
def f_X5_ring (h : hp)  : Option (Int32 × hp) := if h 0 5 = 0 then (some (0, h)) else (some (1, (u2 h 0 6 1)))
abbrev rmX5_ring : Room := { frames := 0, cells := 0, slots := 0, locals := 0 }
set_option maxHeartbeats 4000000 in
set_option maxRecDepth 100000 in
theorem c_X5_ring (l : Launch) (dC : Nat → ClassId) (dI : Nat → Nat → Nat) (cI cS : ClassId) (a : Nat → Nat) (hD : xD 95 a) (h : hp)  {r9 : Int32} {h9 : hp} (hf : f_X5_ring h  = some (r9, h9)) : XMi l yX5_ring wsX5_ring rmX5_ring (dC, dI) vwCl (kty cI cS) 95 a (kcf cI cS a) h [.ref (a 0)] r9 h9 := by
  refine xm_i (cc := cX5_ring) (maxL := 1) (ws' := wsX5_ring.tail) (by decide) rfl hD (Nat.le_of_ble_eq_true rfl) [(0, .ref (a 0))] rfl RX5 rfl ?_
  intro p e s m args below meth c C hlk hr
  have wl50 : Cond.fieldLink RX5 50 "RewindBox" "recording" "Z" ∈ wsX5_ring := by decide +kernel
  have wnX5 : ∀ w ∈ u_ws RX5 TX5 9, w ∈ wsX5_ring := by decide +kernel
  have wl75 : Cond.fieldLink RX5 75 "RewindBox" "ringCame" "Z" ∈ wsX5_ring := by decide +kernel
  unfold f_X5_ring at hf
  refine xr_aload_n C dX5_ring_0 0 rfl rfl ?_
  refine xr_get C (ci := 5) (Cn := RX5) (T := TX5) (N := 9) (v := .int (h 0 5)) 0 (by decide) rfl rfl 5 (by decide) wnX5 wl50 rfl rfl dX5_ring_1 ?_
  refine xr_if_ne C 9 dX5_ring_4 (by decide) (fun cd1 => ?_) (fun cd1 => ?_)
  · rw [if_neg cd1] at hf
    refine xr_aload_n C dX5_ring_9 0 rfl rfl ?_
    refine xr_iconst C (v := 1) dX5_ring_10 (by decide +kernel) ?_
    refine xr_put C (ci := 5) (Cn := RX5) (T := TX5) (N := 9) (ty := .boolean) (v := 1) 0 (by decide) rfl rfl 6 (by decide) wnX5 wl75 rfl tyX5 tyX5_ok nmX5 rfl (by decide +kernel) (by decide +kernel) (by decide +kernel) (Nat.le_of_ble_eq_true rfl) rfl dX5_ring_11 ?_
    refine xr_iconst C (v := 1) dX5_ring_14 (by decide +kernel) ?_
    cases hf
    exact xr_zret C hlk hr (by decide +kernel) dX5_ring_15
  · rw [if_pos cd1] at hf
    refine xr_iconst C (v := 0) dX5_ring_7 (by decide +kernel) ?_
    cases hf
    exact xr_zret C hlk hr (by decide +kernel) dX5_ring_8
def f_X5_isOnRecord (h0 : hp) (x1 : Int32) : Option Int32 := if h0 0 5 = 0 then (some 0) else (if x1 < 0 then (some 0) else (if h0 0 8 < x1 then (some 0) else (some 1)))
abbrev rmX5_isOnRecord : Room := { frames := 0, cells := 0, slots := 0, locals := 0 }
set_option maxHeartbeats 4000000 in
set_option maxRecDepth 100000 in
theorem c_X5_isOnRecord (l : Launch) (dC : Nat → ClassId) (dI : Nat → Nat → Nat) (cI cS : ClassId) (a : Nat → Nat) (hD : xD 95 a) (h0 : hp) (x1 : Int32) {r9 : Int32} (hf : f_X5_isOnRecord h0 x1 = some r9) : XMi l yX5_isOnRecord wsX5_isOnRecord rmX5_isOnRecord (dC, dI) vwCl (kty cI cS) 95 a (kcf cI cS a) h0 [.ref (a 0), .int x1] r9 h0 := by
  refine xm_i (cc := cX5_isOnRecord) (maxL := 2) (ws' := wsX5_isOnRecord.tail) (by decide) rfl hD (Nat.le_of_ble_eq_true rfl) [(0, .ref (a 0)), (1, .int x1)] rfl RX5 rfl ?_
  intro p e s m args below meth c C hlk hr
  have wl50 : Cond.fieldLink RX5 50 "RewindBox" "recording" "Z" ∈ wsX5_isOnRecord := by decide +kernel
  have wnX5 : ∀ w ∈ u_ws RX5 TX5 9, w ∈ wsX5_isOnRecord := by decide +kernel
  have wl81 : Cond.fieldLink RX5 81 "RewindBox" "end" "I" ∈ wsX5_isOnRecord := by decide +kernel
  unfold f_X5_isOnRecord at hf
  refine xr_aload_n C dX5_isOnRecord_0 0 rfl rfl ?_
  refine xr_get C (ci := 5) (Cn := RX5) (T := TX5) (N := 9) (v := .int (h0 0 5)) 0 (by decide) rfl rfl 5 (by decide) wnX5 wl50 rfl rfl dX5_isOnRecord_1 ?_
  refine xr_if_eq C 23 dX5_isOnRecord_4 (by decide) (fun cd1 => ?_) (fun cd1 => ?_)
  · rw [if_pos cd1] at hf
    refine xr_iconst C (v := 0) dX5_isOnRecord_23 (by decide +kernel) ?_
    cases hf
    exact xr_zret C hlk hr (by decide +kernel) dX5_isOnRecord_24
  · rw [if_neg cd1] at hf
    refine xr_iload_n C dX5_isOnRecord_7 1 rfl rfl ?_
    refine xr_if_lt C 23 dX5_isOnRecord_8 (by decide) (fun cd2 => ?_) (fun cd2 => ?_)
    · rw [if_pos cd2] at hf
      refine xr_iconst C (v := 0) dX5_isOnRecord_23 (by decide +kernel) ?_
      cases hf
      exact xr_zret C hlk hr (by decide +kernel) dX5_isOnRecord_24
    · rw [if_neg cd2] at hf
      refine xr_iload_n C dX5_isOnRecord_11 1 rfl rfl ?_
      refine xr_aload_n C dX5_isOnRecord_12 0 rfl rfl ?_
      refine xr_get C (ci := 5) (Cn := RX5) (T := TX5) (N := 9) (v := .int (h0 0 8)) 0 (by decide) rfl rfl 8 (by decide) wnX5 wl81 rfl rfl dX5_isOnRecord_13 ?_
      refine xr_icmp_gt C 23 dX5_isOnRecord_16 (by decide) (fun cd3 => ?_) (fun cd3 => ?_)
      · rw [if_pos cd3] at hf
        refine xr_iconst C (v := 0) dX5_isOnRecord_23 (by decide +kernel) ?_
        cases hf
        exact xr_zret C hlk hr (by decide +kernel) dX5_isOnRecord_24
      · rw [if_neg cd3] at hf
        refine xr_iconst C (v := 1) dX5_isOnRecord_19 (by decide +kernel) ?_
        refine xr_goto C 24 dX5_isOnRecord_20 (by decide) ?_
        cases hf
        exact xr_zret C hlk hr (by decide +kernel) dX5_isOnRecord_24
def f_X5_nextLiveKind_19 (h0 : hp)  : Option Int32 := bR (f_X2_nextOp h0) (fun rr3 => if rr3 = 0 then (some (-1)) else (if rr3 = 12 then (if h0 5 2 ≤ 0 then (some (-1)) else (some 1)) else (some 0)))
def f_X5_nextLiveKind (h0 : hp)  : Option Int32 := if h0 0 6 = 0 then (f_X5_nextLiveKind_19 h0 ) else (if h0 1 5 = 0 then (f_X5_nextLiveKind_19 h0 ) else (some 2))
abbrev rmX5_nextLiveKind : Room := { frames := 1, cells := 0, slots := 0, locals := 20 }
set_option maxHeartbeats 4000000 in
set_option maxRecDepth 100000 in
theorem c_X5_nextLiveKind (l : Launch) (dC : Nat → ClassId) (dI : Nat → Nat → Nat) (cI cS : ClassId) (a : Nat → Nat) (hD : xD 95 a) (h0 : hp)  {r9 : Int32} (hf : f_X5_nextLiveKind h0  = some r9) : XMi l yX5_nextLiveKind wsX5_nextLiveKind rmX5_nextLiveKind (dC, dI) vwCl (kty cI cS) 95 a (kcf cI cS a) h0 [.ref (a 0)] r9 h0 := by
  refine xm_i (cc := cX5_nextLiveKind) (maxL := 2) (ws' := wsX5_nextLiveKind.tail) (by decide) rfl hD (Nat.le_of_ble_eq_true rfl) [(0, .ref (a 0))] rfl RX5 rfl ?_
  intro p e s m args below meth c C hlk hr
  have wl75 : Cond.fieldLink RX5 75 "RewindBox" "ringCame" "Z" ∈ wsX5_nextLiveKind := by decide +kernel
  have wnX5 : ∀ w ∈ u_ws RX5 TX5 9, w ∈ wsX5_nextLiveKind := by decide +kernel
  have wl25 : Cond.fieldLink RX5 25 "RewindBox" "machine" "LRewindBox$Machine;" ∈ wsX5_nextLiveKind := by decide +kernel
  have wl32 : Cond.fieldLink RX5 32 "RewindBox" "inputs" "LRewindBox$Inputs;" ∈ wsX5_nextLiveKind := by decide +kernel
  have wl84 : Cond.fieldLink RX5 84 "RewindBox$Inputs" "count" "I" ∈ wsX5_nextLiveKind := by decide +kernel
  have wnX0 : ∀ w ∈ u_ws RX0 TX0 3, w ∈ wsX5_nextLiveKind := by decide +kernel
  have wl142 : Cond.fieldLink RX5 142 "RewindBox$Machine" "open" "Z" ∈ wsX5_nextLiveKind := by decide +kernel
  have wnX2 : ∀ w ∈ u_ws RX2 TX2 8, w ∈ wsX5_nextLiveKind := by decide +kernel
  have lab19 : f_X5_nextLiveKind_19 h0  = some r9 → XJ p l e rmX5_nextLiveKind s m args below meth c (dC, dI) vwCl 95 a (kcf cI cS a) 2 (MQ below (XQi (dC, dI) vwCl 95 a (kcf cI cS a) r9 h0) args s 0 0 (xA 95 a)) h0 [(0, .ref (a 0))] [] 19 := by
    intro   hf
    unfold f_X5_nextLiveKind_19 at hf
    refine xr_aload_n C dX5_nextLiveKind_19 0 rfl rfl ?_
    refine xr_get C (ci := 5) (Cn := RX5) (T := TX5) (N := 9) (v := .ref (a 1)) 0 (by decide) rfl rfl 1 (by decide) wnX5 wl25 rfl rfl dX5_nextLiveKind_20 ?_
    obtain ⟨rr3, ee2, hf⟩ := bR_some hf
    refine xr_callVi C (Cn := RX2) 1 (by decide) rfl rfl [] [] (c_X2_nextOp l dC dI cI cS a hD h0 ee2) (cwV 0 C.2.2.1 gX5_nextLiveKind_X2_nextOp rfl rfl rfl (by decide +kernel) ⟨Nat.le_of_ble_eq_true rfl, Nat.le_of_ble_eq_true rfl⟩) rfl rfl (Nat.le_of_ble_eq_true rfl) dX5_nextLiveKind_23 ?_
    refine xr_istore_n C [(1, .int rr3), (0, .ref (a 0))] dX5_nextLiveKind_26 rfl (by decide) rfl ?_
    refine xr_iload_n C dX5_nextLiveKind_27 0 rfl rfl ?_
    refine xr_if_ne C 33 dX5_nextLiveKind_28 (by decide) (fun cd4 => ?_) (fun cd4 => ?_)
    · rw [if_neg cd4] at hf
      refine xr_iload_n C dX5_nextLiveKind_33 0 rfl rfl ?_
      refine xr_bipush C (v := 12) dX5_nextLiveKind_34 (by decide +kernel) ?_
      refine xr_icmp_eq C 41 dX5_nextLiveKind_36 (by decide) (fun cd5 => ?_) (fun cd5 => ?_)
      · rw [if_pos cd5] at hf
        refine xr_aload_n C dX5_nextLiveKind_41 1 rfl rfl ?_
        refine xr_get C (ci := 5) (Cn := RX5) (T := TX5) (N := 9) (v := .ref (a 5)) 0 (by decide) rfl rfl 2 (by decide) wnX5 wl32 rfl rfl dX5_nextLiveKind_42 ?_
        refine xr_get C (ci := 0) (Cn := RX0) (T := TX0) (N := 3) (v := .int (h0 5 2)) 5 (by decide) rfl rfl 2 (by decide) wnX0 wl84 rfl rfl dX5_nextLiveKind_45 ?_
        refine xr_if_le C 55 dX5_nextLiveKind_48 (by decide) (fun cd6 => ?_) (fun cd6 => ?_)
        · rw [if_pos cd6] at hf
          refine xr_iconst C (v := (-1)) dX5_nextLiveKind_55 (by decide +kernel) ?_
          cases hf
          exact xr_iret C hlk hr dX5_nextLiveKind_56
        · rw [if_neg cd6] at hf
          refine xr_iconst C (v := 1) dX5_nextLiveKind_51 (by decide +kernel) ?_
          refine xr_goto C 56 dX5_nextLiveKind_52 (by decide) ?_
          cases hf
          exact xr_iret C hlk hr dX5_nextLiveKind_56
      · rw [if_neg cd5] at hf
        refine xr_iconst C (v := 0) dX5_nextLiveKind_39 (by decide +kernel) ?_
        cases hf
        exact xr_iret C hlk hr dX5_nextLiveKind_40
    · rw [if_pos cd4] at hf
      refine xr_iconst C (v := (-1)) dX5_nextLiveKind_31 (by decide +kernel) ?_
      cases hf
      exact xr_iret C hlk hr dX5_nextLiveKind_32
  unfold f_X5_nextLiveKind at hf
  refine xr_aload_n C dX5_nextLiveKind_0 0 rfl rfl ?_
  refine xr_get C (ci := 5) (Cn := RX5) (T := TX5) (N := 9) (v := .int (h0 0 6)) 0 (by decide) rfl rfl 6 (by decide) wnX5 wl75 rfl rfl dX5_nextLiveKind_1 ?_
  refine xr_if_eq C 19 dX5_nextLiveKind_4 (by decide) (fun cd1 => ?_) (fun cd1 => ?_)
  · rw [if_pos cd1] at hf
    exact xr_sub C [0] rfl (lab19    hf)
  · rw [if_neg cd1] at hf
    refine xr_aload_n C dX5_nextLiveKind_7 0 rfl rfl ?_
    refine xr_get C (ci := 5) (Cn := RX5) (T := TX5) (N := 9) (v := .ref (a 1)) 0 (by decide) rfl rfl 1 (by decide) wnX5 wl25 rfl rfl dX5_nextLiveKind_8 ?_
    refine xr_get C (ci := 2) (Cn := RX2) (T := TX2) (N := 8) (v := .int (h0 1 5)) 1 (by decide) rfl rfl 5 (by decide) wnX2 wl142 rfl rfl dX5_nextLiveKind_11 ?_
    refine xr_if_eq C 19 dX5_nextLiveKind_14 (by decide) (fun cd7 => ?_) (fun cd7 => ?_)
    · rw [if_pos cd7] at hf
      exact xr_sub C [0] rfl (lab19    hf)
    · rw [if_neg cd7] at hf
      refine xr_iconst C (v := 2) dX5_nextLiveKind_17 (by decide +kernel) ?_
      cases hf
      exact xr_iret C hlk hr dX5_nextLiveKind_18
def f_X5_isFull_58 (h0 : hp) (x2 : Int32) : Option Int32 := bR (f_X4_hasRoomFor h0 x2) (fun rr8 => if rr8 = 0 then (some 1) else (some 0))
def f_X5_isFull_19 (h0 : hp) (x1 : Int32) : Option Int32 := gd (¬ (h0 0 0) = 0) (if (((h0 0 8) + 1) - ((h0 0 8) + 1) / (h0 0 0) * (h0 0 0)) = 0 then (if x1 = 2 then (gl (h0 1 7) (fun v10 => f_X5_isFull_58 h0 v10)) else (bR (f_X2_writtenWithNext h0) (fun rr6 => f_X5_isFull_58 h0 rr6))) else (some 0))
def f_X5_isFull (h0 : hp) (x1 : Int32) : Option Int32 := if x1 = 0 then (f_X5_isFull_19 h0 x1) else (if h0 7 3 < 300 then (f_X5_isFull_19 h0 x1) else (some 1))
abbrev rmX5_isFull : Room := { frames := 3, cells := 0, slots := 0, locals := 61 }
set_option maxHeartbeats 4000000 in
set_option maxRecDepth 100000 in
theorem c_X5_isFull (l : Launch) (dC : Nat → ClassId) (dI : Nat → Nat → Nat) (cI cS : ClassId) (a : Nat → Nat) (hD : xD 95 a) (h0 : hp) (x1 : Int32) {r9 : Int32} (hf : f_X5_isFull h0 x1 = some r9) : XMi l yX5_isFull wsX5_isFull rmX5_isFull (dC, dI) vwCl (kty cI cS) 95 a (kcf cI cS a) h0 [.ref (a 0), .int x1] r9 h0 := by
  refine xm_i (cc := cX5_isFull) (maxL := 3) (ws' := wsX5_isFull.tail) (by decide) rfl hD (Nat.le_of_ble_eq_true rfl) [(0, .ref (a 0)), (1, .int x1)] rfl RX5 rfl ?_
  intro p e s m args below meth c C hlk hr
  have wl81 : Cond.fieldLink RX5 81 "RewindBox" "end" "I" ∈ wsX5_isFull := by decide +kernel
  have wnX5 : ∀ w ∈ u_ws RX5 TX5 9, w ∈ wsX5_isFull := by decide +kernel
  have wl18 : Cond.fieldLink RX5 18 "RewindBox" "interval" "I" ∈ wsX5_isFull := by decide +kernel
  have wl25 : Cond.fieldLink RX5 25 "RewindBox" "machine" "LRewindBox$Machine;" ∈ wsX5_isFull := by decide +kernel
  have wl46 : Cond.fieldLink RX5 46 "RewindBox" "snapshots" "LRewindBox$Snapshots;" ∈ wsX5_isFull := by decide +kernel
  have wl163 : Cond.fieldLink RX5 163 "RewindBox$Machine" "written" "I" ∈ wsX5_isFull := by decide +kernel
  have wnX2 : ∀ w ∈ u_ws RX2 TX2 8, w ∈ wsX5_isFull := by decide +kernel
  have wl39 : Cond.fieldLink RX5 39 "RewindBox" "entries" "LRewindBox$Log;" ∈ wsX5_isFull := by decide +kernel
  have wl68 : Cond.fieldLink RX5 68 "RewindBox$Log" "count" "I" ∈ wsX5_isFull := by decide +kernel
  have wnX1 : ∀ w ∈ u_ws RX1 TX1 4, w ∈ wsX5_isFull := by decide +kernel
  have lab58 : ∀ (x2 : Int32) , f_X5_isFull_58 h0 x2 = some r9 → XJ p l e rmX5_isFull s m args below meth c (dC, dI) vwCl 95 a (kcf cI cS a) 3 (MQ below (XQi (dC, dI) vwCl 95 a (kcf cI cS a) r9 h0) args s 0 0 (xA 95 a)) h0 [(0, .ref (a 0)), (2, .int x2)] [] 58 := by
    intro x2  hf
    unfold f_X5_isFull_58 at hf
    refine xr_aload_n C dX5_isFull_58 0 rfl rfl ?_
    refine xr_get C (ci := 5) (Cn := RX5) (T := TX5) (N := 9) (v := .ref (a 11)) 0 (by decide) rfl rfl 4 (by decide) wnX5 wl46 rfl rfl dX5_isFull_59 ?_
    refine xr_iload_n C dX5_isFull_62 1 rfl rfl ?_
    obtain ⟨rr8, ee7, hf⟩ := bR_some hf
    refine xr_callVi C (Cn := RX4) 11 (by decide) rfl rfl [.int x2] [] (c_X4_hasRoomFor l dC dI cI cS a hD h0 x2 ee7) (cwV 1 C.2.2.1 gX5_isFull_X4_hasRoomFor rfl rfl rfl (by decide +kernel) ⟨Nat.le_of_ble_eq_true rfl, Nat.le_of_ble_eq_true rfl⟩) rfl rfl (Nat.le_of_ble_eq_true rfl) dX5_isFull_63 ?_
    refine xr_if_ne C 73 dX5_isFull_66 (by decide) (fun cd9 => ?_) (fun cd9 => ?_)
    · rw [if_neg cd9] at hf
      refine xr_iconst C (v := 0) dX5_isFull_73 (by decide +kernel) ?_
      cases hf
      exact xr_zret C hlk hr (by decide +kernel) dX5_isFull_74
    · rw [if_pos cd9] at hf
      refine xr_iconst C (v := 1) dX5_isFull_69 (by decide +kernel) ?_
      refine xr_goto C 74 dX5_isFull_70 (by decide) ?_
      cases hf
      exact xr_zret C hlk hr (by decide +kernel) dX5_isFull_74
  have lab19 : ∀ (x1 : Int32) , f_X5_isFull_19 h0 x1 = some r9 → XJ p l e rmX5_isFull s m args below meth c (dC, dI) vwCl 95 a (kcf cI cS a) 3 (MQ below (XQi (dC, dI) vwCl 95 a (kcf cI cS a) r9 h0) args s 0 0 (xA 95 a)) h0 [(0, .ref (a 0)), (1, .int x1)] [] 19 := by
    intro x1  hf
    unfold f_X5_isFull_19 at hf
    refine xr_aload_n C dX5_isFull_19 0 rfl rfl ?_
    refine xr_get C (ci := 5) (Cn := RX5) (T := TX5) (N := 9) (v := .int (h0 0 8)) 0 (by decide) rfl rfl 8 (by decide) wnX5 wl81 rfl rfl dX5_isFull_20 ?_
    refine xr_iconst C (v := 1) dX5_isFull_23 (by decide +kernel) ?_
    refine xr_iadd C dX5_isFull_24 ?_
    refine xr_aload_n C dX5_isFull_25 0 rfl rfl ?_
    refine xr_get C (ci := 5) (Cn := RX5) (T := TX5) (N := 9) (v := .int (h0 0 0)) 0 (by decide) rfl rfl 0 (by decide) wnX5 wl18 rfl rfl dX5_isFull_26 ?_
    obtain ⟨gg2, hf⟩ := gd_some hf
    refine xr_irem C dX5_isFull_29 gg2 ?_
    refine xr_if_eq C 35 dX5_isFull_30 (by decide) (fun cd3 => ?_) (fun cd3 => ?_)
    · rw [if_pos cd3] at hf
      refine xr_iload_n C dX5_isFull_35 1 rfl rfl ?_
      refine xr_iconst C (v := 2) dX5_isFull_36 (by decide +kernel) ?_
      refine xr_icmp_ne C 50 dX5_isFull_37 (by decide) (fun cd4 => ?_) (fun cd4 => ?_)
      · rw [if_neg cd4] at hf
        refine xr_aload_n C dX5_isFull_50 0 rfl rfl ?_
        refine xr_get C (ci := 5) (Cn := RX5) (T := TX5) (N := 9) (v := .ref (a 1)) 0 (by decide) rfl rfl 1 (by decide) wnX5 wl25 rfl rfl dX5_isFull_51 ?_
        obtain ⟨rr6, ee5, hf⟩ := bR_some hf
        refine xr_callVi C (Cn := RX2) 1 (by decide) rfl rfl [] [] (c_X2_writtenWithNext l dC dI cI cS a hD h0 ee5) (cwV 0 C.2.2.1 gX5_isFull_X2_writtenWithNext rfl rfl rfl (by decide +kernel) ⟨Nat.le_of_ble_eq_true rfl, Nat.le_of_ble_eq_true rfl⟩) rfl rfl (Nat.le_of_ble_eq_true rfl) dX5_isFull_54 ?_
        refine xr_istore_n C [(2, .int rr6), (0, .ref (a 0)), (1, .int x1)] dX5_isFull_57 rfl (by decide) rfl ?_
        exact xr_sub C [1, 0] rfl (lab58  rr6  hf)
      · rw [if_pos cd4] at hf
        refine xr_aload_n C dX5_isFull_40 0 rfl rfl ?_
        refine xr_get C (ci := 5) (Cn := RX5) (T := TX5) (N := 9) (v := .ref (a 1)) 0 (by decide) rfl rfl 1 (by decide) wnX5 wl25 rfl rfl dX5_isFull_41 ?_
        refine xr_get C (ci := 2) (Cn := RX2) (T := TX2) (N := 8) (v := .int (h0 1 7)) 1 (by decide) rfl rfl 7 (by decide) wnX2 wl163 rfl rfl dX5_isFull_44 ?_
        refine xr_goto C 57 dX5_isFull_47 (by decide) ?_
        refine xr_topi C (fun v10 ev10 => ?_)
        have hf := gl_at hf v10 ev10
        refine xr_istore_n C [(2, .int v10), (0, .ref (a 0)), (1, .int x1)] dX5_isFull_57 rfl (by decide) rfl ?_
        exact xr_sub C [1, 0] rfl (lab58  v10  hf)
    · rw [if_neg cd3] at hf
      refine xr_iconst C (v := 0) dX5_isFull_33 (by decide +kernel) ?_
      cases hf
      exact xr_zret C hlk hr (by decide +kernel) dX5_isFull_34
  unfold f_X5_isFull at hf
  refine xr_iload_n C dX5_isFull_0 1 rfl rfl ?_
  refine xr_if_eq C 19 dX5_isFull_1 (by decide) (fun cd1 => ?_) (fun cd1 => ?_)
  · rw [if_pos cd1] at hf
    exact xr_sub C [0, 1] rfl (lab19  x1  hf)
  · rw [if_neg cd1] at hf
    refine xr_aload_n C dX5_isFull_4 0 rfl rfl ?_
    refine xr_get C (ci := 5) (Cn := RX5) (T := TX5) (N := 9) (v := .ref (a 7)) 0 (by decide) rfl rfl 3 (by decide) wnX5 wl39 rfl rfl dX5_isFull_5 ?_
    refine xr_get C (ci := 1) (Cn := RX1) (T := TX1) (N := 4) (v := .int (h0 7 3)) 7 (by decide) rfl rfl 3 (by decide) wnX1 wl68 rfl rfl dX5_isFull_8 ?_
    refine xr_sipush C (v := 300) dX5_isFull_11 (by decide +kernel) ?_
    refine xr_icmp_lt C 19 dX5_isFull_14 (by decide) (fun cd11 => ?_) (fun cd11 => ?_)
    · rw [if_pos cd11] at hf
      exact xr_sub C [0, 1] rfl (lab19  x1  hf)
    · rw [if_neg cd11] at hf
      refine xr_iconst C (v := 1) dX5_isFull_17 (by decide +kernel) ?_
      cases hf
      exact xr_zret C hlk hr (by decide +kernel) dX5_isFull_18
