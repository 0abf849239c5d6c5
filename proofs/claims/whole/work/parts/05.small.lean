def f_J6_bitCount_0f7a4 (x0 : Int32) : Int32 := gl (x0 - (((x0.toUInt32 >>> ((1 : Int32).toUInt32 &&& Int32.toUInt32 31)).toInt32) &&& 1431655765)) (fun v1 => gl ((v1 &&& 858993459) + (((v1.toUInt32 >>> ((2 : Int32).toUInt32 &&& Int32.toUInt32 31)).toInt32) &&& 858993459)) (fun v2 => gl ((v2 + ((v2.toUInt32 >>> ((4 : Int32).toUInt32 &&& Int32.toUInt32 31)).toInt32)) &&& 252645135) (fun v3 => gl (v3 + ((v3.toUInt32 >>> ((8 : Int32).toUInt32 &&& Int32.toUInt32 31)).toInt32)) (fun v4 => gl (v4 + ((v4.toUInt32 >>> ((16 : Int32).toUInt32 &&& Int32.toUInt32 31)).toInt32)) (fun v5 => (v5 &&& 63))))))
abbrev rmJ6_bitCount_0f7a4 : Room := { frames := 0, cells := 0, slots := 0, locals := 0 }
set_option maxHeartbeats 4000000 in
set_option maxRecDepth 100000 in
theorem c_J6_bitCount_0f7a4 (l : Launch) (dC : Nat → ClassId) (dI : Nat → Nat → Nat) (cI cS : ClassId) (a : Nat → Nat) (hD : xD 95 a) (h0 : hp) (x0 : Int32) {r9 : Int32} (hf : f_J6_bitCount_0f7a4 x0 = r9) : XMi l yJ6_bitCount_0f7a4 wsJ6_bitCount_0f7a4 rmJ6_bitCount_0f7a4 (dC, dI) vwCl (kty cI cS) 95 a (kcf cI cS a) h0 [.int x0] r9 h0 := by
  refine xm_i (cc := cJ6_bitCount_0f7a4) (maxL := 1) (ws' := wsJ6_bitCount_0f7a4.tail) (by decide) rfl hD (Nat.le_of_ble_eq_true rfl) [(0, .int x0)] rfl RJ6 rfl ?_
  intro p e s m args below meth c C hlk hr
  unfold f_J6_bitCount_0f7a4 at hf
  refine xr_iload_n C dJ6_bitCount_0f7a4_0 0 rfl rfl ?_
  refine xr_iload_n C dJ6_bitCount_0f7a4_1 0 rfl rfl ?_
  refine xr_iconst C (v := 1) dJ6_bitCount_0f7a4_2 (by decide +kernel) ?_
  refine xr_iushr C dJ6_bitCount_0f7a4_3 ?_
  refine xr_ldcw C (v := 1431655765) dJ6_bitCount_0f7a4_4 (by decide +kernel) ?_
  refine xr_iand C dJ6_bitCount_0f7a4_7 ?_
  refine xr_isub C dJ6_bitCount_0f7a4_8 ?_
  refine xr_topi C (fun v1 ev1 => ?_)
  have hf := gl_at hf v1 ev1
  refine xr_istore_n C [(0, .int v1)] dJ6_bitCount_0f7a4_9 rfl (by decide) rfl ?_
  refine xr_iload_n C dJ6_bitCount_0f7a4_10 0 rfl rfl ?_
  refine xr_ldcw C (v := 858993459) dJ6_bitCount_0f7a4_11 (by decide +kernel) ?_
  refine xr_iand C dJ6_bitCount_0f7a4_14 ?_
  refine xr_iload_n C dJ6_bitCount_0f7a4_15 0 rfl rfl ?_
  refine xr_iconst C (v := 2) dJ6_bitCount_0f7a4_16 (by decide +kernel) ?_
  refine xr_iushr C dJ6_bitCount_0f7a4_17 ?_
  refine xr_ldcw C (v := 858993459) dJ6_bitCount_0f7a4_18 (by decide +kernel) ?_
  refine xr_iand C dJ6_bitCount_0f7a4_21 ?_
  refine xr_iadd C dJ6_bitCount_0f7a4_22 ?_
  refine xr_topi C (fun v2 ev2 => ?_)
  have hf := gl_at hf v2 ev2
  refine xr_istore_n C [(0, .int v2)] dJ6_bitCount_0f7a4_23 rfl (by decide) rfl ?_
  refine xr_iload_n C dJ6_bitCount_0f7a4_24 0 rfl rfl ?_
  refine xr_iload_n C dJ6_bitCount_0f7a4_25 0 rfl rfl ?_
  refine xr_iconst C (v := 4) dJ6_bitCount_0f7a4_26 (by decide +kernel) ?_
  refine xr_iushr C dJ6_bitCount_0f7a4_27 ?_
  refine xr_iadd C dJ6_bitCount_0f7a4_28 ?_
  refine xr_ldcw C (v := 252645135) dJ6_bitCount_0f7a4_29 (by decide +kernel) ?_
  refine xr_iand C dJ6_bitCount_0f7a4_32 ?_
  refine xr_topi C (fun v3 ev3 => ?_)
  have hf := gl_at hf v3 ev3
  refine xr_istore_n C [(0, .int v3)] dJ6_bitCount_0f7a4_33 rfl (by decide) rfl ?_
  refine xr_iload_n C dJ6_bitCount_0f7a4_34 0 rfl rfl ?_
  refine xr_iload_n C dJ6_bitCount_0f7a4_35 0 rfl rfl ?_
  refine xr_bipush C (v := 8) dJ6_bitCount_0f7a4_36 (by decide +kernel) ?_
  refine xr_iushr C dJ6_bitCount_0f7a4_38 ?_
  refine xr_iadd C dJ6_bitCount_0f7a4_39 ?_
  refine xr_topi C (fun v4 ev4 => ?_)
  have hf := gl_at hf v4 ev4
  refine xr_istore_n C [(0, .int v4)] dJ6_bitCount_0f7a4_40 rfl (by decide) rfl ?_
  refine xr_iload_n C dJ6_bitCount_0f7a4_41 0 rfl rfl ?_
  refine xr_iload_n C dJ6_bitCount_0f7a4_42 0 rfl rfl ?_
  refine xr_bipush C (v := 16) dJ6_bitCount_0f7a4_43 (by decide +kernel) ?_
  refine xr_iushr C dJ6_bitCount_0f7a4_45 ?_
  refine xr_iadd C dJ6_bitCount_0f7a4_46 ?_
  refine xr_topi C (fun v5 ev5 => ?_)
  have hf := gl_at hf v5 ev5
  refine xr_istore_n C [(0, .int v5)] dJ6_bitCount_0f7a4_47 rfl (by decide) rfl ?_
  refine xr_iload_n C dJ6_bitCount_0f7a4_48 0 rfl rfl ?_
  refine xr_bipush C (v := 63) dJ6_bitCount_0f7a4_49 (by decide +kernel) ?_
  refine xr_iand C dJ6_bitCount_0f7a4_51 ?_
  subst hf
  exact xr_iret C hlk hr dJ6_bitCount_0f7a4_52
def f_J7_fill_53178_5 : Nat → hp → Int32 → Int32 → Int32 → Option hp
  | 0, _, _, _, _ => none
  | n + 1, h, x1, x2, x3 => if x3 ≤ x2 then (some h) else (gd (¬ (x2 < 0 ∨ 8 ≤ x2.toNatClampNeg)) (f_J7_fill_53178_5 n (u2 h 2 x2.toNatClampNeg x1) x1 (x2 + 1) x3))
def f_J7_fill_53178 (h : hp) (x1 : Int32) : Option hp := f_J7_fill_53178_5 1000 h x1 0 8
abbrev rmJ7_fill_53178 : Room := { frames := 0, cells := 0, slots := 0, locals := 0 }
set_option maxHeartbeats 4000000 in
set_option maxRecDepth 100000 in
theorem c_J7_fill_53178 (l : Launch) (dC : Nat → ClassId) (dI : Nat → Nat → Nat) (cI cS : ClassId) (a : Nat → Nat) (hD : xD 95 a) (h : hp) (x1 : Int32) {h9 : hp} (hf : f_J7_fill_53178 h x1 = some h9) : XMv l yJ7_fill_53178 wsJ7_fill_53178 rmJ7_fill_53178 (dC, dI) vwCl (kty cI cS) 95 a (kcf cI cS a) h [.ref (a 2), .int x1] h9 := by
  refine xm_v (cc := cJ7_fill_53178) (maxL := 4) (ws' := wsJ7_fill_53178.tail) (by decide) rfl hD (Nat.le_of_ble_eq_true rfl) [(0, .ref (a 2)), (1, .int x1)] rfl RJ7 rfl ?_
  intro p e s m args below meth c C hlk hr
  have lab5 : ∀ (n : Nat) (h : hp) (x1 : Int32) (x2 : Int32) (x3 : Int32) , f_J7_fill_53178_5 n h x1 x2 x3 = some h9 → XJ p l e rmJ7_fill_53178 s m args below meth c (dC, dI) vwCl 95 a (kcf cI cS a) 4 (MQ below (XQv (dC, dI) vwCl 95 a (kcf cI cS a) h9) args s 0 0 (xA 95 a)) h [(0, .ref (a 2)), (1, .int x1), (2, .int x2), (3, .int x3)] [] 5 := by
    intro n
    induction n with
    | zero => intro h x1 x2 x3  hf; simp [f_J7_fill_53178_5] at hf
    | succ n ih =>
      intro h x1 x2 x3  hf
      rw [f_J7_fill_53178_5] at hf
      refine xr_iload_n C dJ7_fill_53178_5 2 rfl rfl ?_
      refine xr_iload_n C dJ7_fill_53178_6 3 rfl rfl ?_
      refine xr_icmp_ge C 20 dJ7_fill_53178_7 (by decide) (fun cd1 => ?_) (fun cd1 => ?_)
      · rw [if_pos cd1] at hf
        cases hf
        exact xr_vret C hlk hr dJ7_fill_53178_20
      · rw [if_neg cd1] at hf
        refine xr_aload_n C dJ7_fill_53178_10 0 rfl rfl ?_
        refine xr_iload_n C dJ7_fill_53178_11 2 rfl rfl ?_
        refine xr_iload_n C dJ7_fill_53178_12 1 rfl rfl ?_
        obtain ⟨gg2, hf⟩ := gd_some hf
        refine xr_iast C 2 (by decide) 0 (fun _ => rfl) rfl gg2 dJ7_fill_53178_13 ?_
        refine xr_iinc C [(2, .int (x2 + 1)), (0, .ref (a 2)), (1, .int x1), (3, .int x3)] dJ7_fill_53178_14 2 rfl rfl (by decide) rfl ?_
        refine xr_goto C 5 dJ7_fill_53178_17 (by decide) ?_
        exact xr_sub C [1, 2, 0, 3] rfl (ih (u2 h 2 x2.toNatClampNeg x1) x1 (x2 + 1) x3  hf)
  unfold f_J7_fill_53178 at hf
  refine xr_iconst C (v := 0) dJ7_fill_53178_0 (by decide +kernel) ?_
  refine xr_istore_n C [(2, .int 0), (0, .ref (a 2)), (1, .int x1)] dJ7_fill_53178_1 rfl (by decide) rfl ?_
  refine xr_aload_n C dJ7_fill_53178_2 1 rfl rfl ?_
  refine xr_alen C (v := 8) 2 (by decide) 0 rfl rfl rfl dJ7_fill_53178_3 ?_
  refine xr_istore_n C [(3, .int 8), (2, .int 0), (0, .ref (a 2)), (1, .int x1)] dJ7_fill_53178_4 rfl (by decide) rfl ?_
  exact xr_sub C [2, 3, 1, 0] rfl (lab5 1000 h x1 0 8  hf)
def f_X5_isPlace (x0 : Int32) : Int32 := if x0 < 0 then ((0 : Int32)) else (if 512 ≤ x0 then ((0 : Int32)) else ((1 : Int32)))
abbrev rmX5_isPlace : Room := { frames := 0, cells := 0, slots := 0, locals := 0 }
set_option maxHeartbeats 4000000 in
set_option maxRecDepth 100000 in
theorem c_X5_isPlace (l : Launch) (dC : Nat → ClassId) (dI : Nat → Nat → Nat) (cI cS : ClassId) (a : Nat → Nat) (hD : xD 95 a) (h0 : hp) (x0 : Int32) {r9 : Int32} (hf : f_X5_isPlace x0 = r9) : XMi l yX5_isPlace wsX5_isPlace rmX5_isPlace (dC, dI) vwCl (kty cI cS) 95 a (kcf cI cS a) h0 [.int x0] r9 h0 := by
  refine xm_i (cc := cX5_isPlace) (maxL := 1) (ws' := wsX5_isPlace.tail) (by decide) rfl hD (Nat.le_of_ble_eq_true rfl) [(0, .int x0)] rfl RX5 rfl ?_
  intro p e s m args below meth c C hlk hr
  unfold f_X5_isPlace at hf
  refine xr_iload_n C dX5_isPlace_0 0 rfl rfl ?_
  refine xr_if_lt C 15 dX5_isPlace_1 (by decide) (fun cd1 => ?_) (fun cd1 => ?_)
  · rw [if_pos cd1] at hf
    refine xr_iconst C (v := 0) dX5_isPlace_15 (by decide +kernel) ?_
    subst hf
    exact xr_zret C hlk hr (by decide +kernel) dX5_isPlace_16
  · rw [if_neg cd1] at hf
    refine xr_iload_n C dX5_isPlace_4 0 rfl rfl ?_
    refine xr_sipush C (v := 512) dX5_isPlace_5 (by decide +kernel) ?_
    refine xr_icmp_ge C 15 dX5_isPlace_8 (by decide) (fun cd2 => ?_) (fun cd2 => ?_)
    · rw [if_pos cd2] at hf
      refine xr_iconst C (v := 0) dX5_isPlace_15 (by decide +kernel) ?_
      subst hf
      exact xr_zret C hlk hr (by decide +kernel) dX5_isPlace_16
    · rw [if_neg cd2] at hf
      refine xr_iconst C (v := 1) dX5_isPlace_11 (by decide +kernel) ?_
      refine xr_goto C 16 dX5_isPlace_12 (by decide) ?_
      subst hf
      exact xr_zret C hlk hr (by decide +kernel) dX5_isPlace_16
def f_X5_placeOf (x0 : Int32) : Int32 := (x0 &&& 511)
abbrev rmX5_placeOf : Room := { frames := 0, cells := 0, slots := 0, locals := 0 }
set_option maxHeartbeats 4000000 in
set_option maxRecDepth 100000 in
theorem c_X5_placeOf (l : Launch) (dC : Nat → ClassId) (dI : Nat → Nat → Nat) (cI cS : ClassId) (a : Nat → Nat) (hD : xD 95 a) (h0 : hp) (x0 : Int32) {r9 : Int32} (hf : f_X5_placeOf x0 = r9) : XMi l yX5_placeOf wsX5_placeOf rmX5_placeOf (dC, dI) vwCl (kty cI cS) 95 a (kcf cI cS a) h0 [.int x0] r9 h0 := by
  refine xm_i (cc := cX5_placeOf) (maxL := 1) (ws' := wsX5_placeOf.tail) (by decide) rfl hD (Nat.le_of_ble_eq_true rfl) [(0, .int x0)] rfl RX5 rfl ?_
  intro p e s m args below meth c C hlk hr
  unfold f_X5_placeOf at hf
  refine xr_iload_n C dX5_placeOf_0 0 rfl rfl ?_
  refine xr_sipush C (v := 511) dX5_placeOf_1 (by decide +kernel) ?_
  refine xr_iand C dX5_placeOf_4 ?_
  subst hf
  exact xr_iret C hlk hr dX5_placeOf_5
def f_X2_reset (h : hp)  : Option hp := bV (f_J7_fill_53178 h 0) (fun hh2 => some (u2 (u2 (u2 (u2 (u2 hh2 1 3 0) 1 4 0) 1 5 0) 1 6 0) 1 7 0))
abbrev rmX2_reset : Room := { frames := 1, cells := 0, slots := 0, locals := 23 }
set_option maxHeartbeats 4000000 in
set_option maxRecDepth 100000 in
theorem c_X2_reset (l : Launch) (dC : Nat → ClassId) (dI : Nat → Nat → Nat) (cI cS : ClassId) (a : Nat → Nat) (hD : xD 95 a) (h : hp)  {h9 : hp} (hf : f_X2_reset h  = some h9) : XMv l yX2_reset wsX2_reset rmX2_reset (dC, dI) vwCl (kty cI cS) 95 a (kcf cI cS a) h [.ref (a 1)] h9 := by
  refine xm_v (cc := cX2_reset) (maxL := 1) (ws' := wsX2_reset.tail) (by decide) rfl hD (Nat.le_of_ble_eq_true rfl) [(0, .ref (a 1))] rfl RX2 rfl ?_
  intro p e s m args below meth c C hlk hr
  have wl9 : Cond.fieldLink RX2 9 "RewindBox$Machine" "registers" "[I" ∈ wsX2_reset := by decide +kernel
  have wnX2 : ∀ w ∈ u_ws RX2 TX2 8, w ∈ wsX2_reset := by decide +kernel
  have wl27 : Cond.fieldLink RX2 27 "RewindBox$Machine" "pc" "I" ∈ wsX2_reset := by decide +kernel
  have wl31 : Cond.fieldLink RX2 31 "RewindBox$Machine" "back" "I" ∈ wsX2_reset := by decide +kernel
  have wl34 : Cond.fieldLink RX2 34 "RewindBox$Machine" "open" "Z" ∈ wsX2_reset := by decide +kernel
  have wl38 : Cond.fieldLink RX2 38 "RewindBox$Machine" "outCount" "I" ∈ wsX2_reset := by decide +kernel
  have wl41 : Cond.fieldLink RX2 41 "RewindBox$Machine" "written" "I" ∈ wsX2_reset := by decide +kernel
  unfold f_X2_reset at hf
  refine xr_aload_n C dX2_reset_0 0 rfl rfl ?_
  refine xr_get C (ci := 2) (Cn := RX2) (T := TX2) (N := 8) (v := .ref (a 2)) 1 (by decide) rfl rfl 0 (by decide) wnX2 wl9 rfl rfl dX2_reset_1 ?_
  refine xr_iconst C (v := 0) dX2_reset_4 (by decide +kernel) ?_
  obtain ⟨hh2, ee1, hf⟩ := bV_some hf
  refine xr_callSv C [.ref (a 2), .int 0] [] (c_J7_fill_53178 l dC dI cI cS a hD h 0 ee1) (va_cwS 2 C.2.2.1 gX2_reset_J7_fill_53178 rfl rfl rfl (by decide +kernel) ⟨Nat.le_of_ble_eq_true rfl, Nat.le_of_ble_eq_true rfl⟩) rfl rfl (Nat.le_of_ble_eq_true rfl) dX2_reset_5 ?_
  refine xr_aload_n C dX2_reset_8 0 rfl rfl ?_
  refine xr_iconst C (v := 0) dX2_reset_9 (by decide +kernel) ?_
  refine xr_put C (ci := 2) (Cn := RX2) (T := TX2) (N := 8) (ty := .int) (v := 0) 1 (by decide) rfl rfl 3 (by decide) wnX2 wl27 rfl tyX2 tyX2_ok nmX2 rfl (by decide +kernel) rfl rfl (Nat.le_of_ble_eq_true rfl) rfl dX2_reset_10 ?_
  refine xr_aload_n C dX2_reset_13 0 rfl rfl ?_
  refine xr_iconst C (v := 0) dX2_reset_14 (by decide +kernel) ?_
  refine xr_put C (ci := 2) (Cn := RX2) (T := TX2) (N := 8) (ty := .int) (v := 0) 1 (by decide) rfl rfl 4 (by decide) wnX2 wl31 rfl tyX2 tyX2_ok nmX2 rfl (by decide +kernel) rfl rfl (Nat.le_of_ble_eq_true rfl) rfl dX2_reset_15 ?_
  refine xr_aload_n C dX2_reset_18 0 rfl rfl ?_
  refine xr_iconst C (v := 0) dX2_reset_19 (by decide +kernel) ?_
  refine xr_put C (ci := 2) (Cn := RX2) (T := TX2) (N := 8) (ty := .boolean) (v := 0) 1 (by decide) rfl rfl 5 (by decide) wnX2 wl34 rfl tyX2 tyX2_ok nmX2 rfl (by decide +kernel) (by decide +kernel) (by decide +kernel) (Nat.le_of_ble_eq_true rfl) rfl dX2_reset_20 ?_
  refine xr_aload_n C dX2_reset_23 0 rfl rfl ?_
  refine xr_iconst C (v := 0) dX2_reset_24 (by decide +kernel) ?_
  refine xr_put C (ci := 2) (Cn := RX2) (T := TX2) (N := 8) (ty := .int) (v := 0) 1 (by decide) rfl rfl 6 (by decide) wnX2 wl38 rfl tyX2 tyX2_ok nmX2 rfl (by decide +kernel) rfl rfl (Nat.le_of_ble_eq_true rfl) rfl dX2_reset_25 ?_
  refine xr_aload_n C dX2_reset_28 0 rfl rfl ?_
  refine xr_iconst C (v := 0) dX2_reset_29 (by decide +kernel) ?_
  refine xr_put C (ci := 2) (Cn := RX2) (T := TX2) (N := 8) (ty := .int) (v := 0) 1 (by decide) rfl rfl 7 (by decide) wnX2 wl41 rfl tyX2 tyX2_ok nmX2 rfl (by decide +kernel) rfl rfl (Nat.le_of_ble_eq_true rfl) rfl dX2_reset_30 ?_
  cases hf
  exact xr_vret C hlk hr dX2_reset_33
def f_X2_nextOp (h0 : hp)  : Option Int32 := gd (¬ ((h0 1 3) < 0 ∨ 512 ≤ (h0 1 3).toNatClampNeg)) (some (((h0 3 (h0 1 3).toNatClampNeg).toUInt32 >>> ((24 : Int32).toUInt32 &&& Int32.toUInt32 31)).toInt32))
abbrev rmX2_nextOp : Room := { frames := 0, cells := 0, slots := 0, locals := 0 }
set_option maxHeartbeats 4000000 in
set_option maxRecDepth 100000 in
theorem c_X2_nextOp (l : Launch) (dC : Nat → ClassId) (dI : Nat → Nat → Nat) (cI cS : ClassId) (a : Nat → Nat) (hD : xD 95 a) (h0 : hp)  {r9 : Int32} (hf : f_X2_nextOp h0  = some r9) : XMi l yX2_nextOp wsX2_nextOp rmX2_nextOp (dC, dI) vwCl (kty cI cS) 95 a (kcf cI cS a) h0 [.ref (a 1)] r9 h0 := by
  refine xm_i (cc := cX2_nextOp) (maxL := 1) (ws' := wsX2_nextOp.tail) (by decide) rfl hD (Nat.le_of_ble_eq_true rfl) [(0, .ref (a 1))] rfl RX2 rfl ?_
  intro p e s m args below meth c C hlk hr
  have wl15 : Cond.fieldLink RX2 15 "RewindBox$Machine" "memory" "[I" ∈ wsX2_nextOp := by decide +kernel
  have wnX2 : ∀ w ∈ u_ws RX2 TX2 8, w ∈ wsX2_nextOp := by decide +kernel
  have wl27 : Cond.fieldLink RX2 27 "RewindBox$Machine" "pc" "I" ∈ wsX2_nextOp := by decide +kernel
  unfold f_X2_nextOp at hf
  refine xr_aload_n C dX2_nextOp_0 0 rfl rfl ?_
  refine xr_get C (ci := 2) (Cn := RX2) (T := TX2) (N := 8) (v := .ref (a 3)) 1 (by decide) rfl rfl 1 (by decide) wnX2 wl15 rfl rfl dX2_nextOp_1 ?_
  refine xr_aload_n C dX2_nextOp_4 0 rfl rfl ?_
  refine xr_get C (ci := 2) (Cn := RX2) (T := TX2) (N := 8) (v := .int (h0 1 3)) 1 (by decide) rfl rfl 3 (by decide) wnX2 wl27 rfl rfl dX2_nextOp_5 ?_
  obtain ⟨gg1, hf⟩ := gd_some hf
  refine xr_iald C (v := h0 3 (h0 1 3).toNatClampNeg) 3 (by decide) 0 rfl rfl gg1 rfl dX2_nextOp_8 ?_
  refine xr_bipush C (v := 24) dX2_nextOp_9 (by decide +kernel) ?_
  refine xr_iushr C dX2_nextOp_11 ?_
  cases hf
  exact xr_iret C hlk hr dX2_nextOp_12
def f_X2_pageBit (x0 : Int32) : Int32 := ((1 : Int32) <<< ((x0 / 16) &&& 31))
abbrev rmX2_pageBit : Room := { frames := 0, cells := 0, slots := 0, locals := 0 }
set_option maxHeartbeats 4000000 in
set_option maxRecDepth 100000 in
theorem c_X2_pageBit (l : Launch) (dC : Nat → ClassId) (dI : Nat → Nat → Nat) (cI cS : ClassId) (a : Nat → Nat) (hD : xD 95 a) (h0 : hp) (x0 : Int32) {r9 : Int32} (hf : f_X2_pageBit x0 = r9) : XMi l yX2_pageBit wsX2_pageBit rmX2_pageBit (dC, dI) vwCl (kty cI cS) 95 a (kcf cI cS a) h0 [.int x0] r9 h0 := by
  refine xm_i (cc := cX2_pageBit) (maxL := 1) (ws' := wsX2_pageBit.tail) (by decide) rfl hD (Nat.le_of_ble_eq_true rfl) [(0, .int x0)] rfl RX2 rfl ?_
  intro p e s m args below meth c C hlk hr
  unfold f_X2_pageBit at hf
  refine xr_iconst C (v := 1) dX2_pageBit_0 (by decide +kernel) ?_
  refine xr_iload_n C dX2_pageBit_1 0 rfl rfl ?_
  refine xr_bipush C (v := 16) dX2_pageBit_2 (by decide +kernel) ?_
  refine xr_idiv C dX2_pageBit_4 (by decide) ?_
  refine xr_ishl C dX2_pageBit_5 ?_
  subst hf
  exact xr_iret C hlk hr dX2_pageBit_6
def f_X2_fieldA (x0 : Int32) : Int32 := ((x0 >>> (16 &&& 31)) &&& 7)
abbrev rmX2_fieldA : Room := { frames := 0, cells := 0, slots := 0, locals := 0 }
set_option maxHeartbeats 4000000 in
set_option maxRecDepth 100000 in
theorem c_X2_fieldA (l : Launch) (dC : Nat → ClassId) (dI : Nat → Nat → Nat) (cI cS : ClassId) (a : Nat → Nat) (hD : xD 95 a) (h0 : hp) (x0 : Int32) {r9 : Int32} (hf : f_X2_fieldA x0 = r9) : XMi l yX2_fieldA wsX2_fieldA rmX2_fieldA (dC, dI) vwCl (kty cI cS) 95 a (kcf cI cS a) h0 [.int x0] r9 h0 := by
  refine xm_i (cc := cX2_fieldA) (maxL := 1) (ws' := wsX2_fieldA.tail) (by decide) rfl hD (Nat.le_of_ble_eq_true rfl) [(0, .int x0)] rfl RX2 rfl ?_
  intro p e s m args below meth c C hlk hr
  unfold f_X2_fieldA at hf
  refine xr_iload_n C dX2_fieldA_0 0 rfl rfl ?_
  refine xr_bipush C (v := 16) dX2_fieldA_1 (by decide +kernel) ?_
  refine xr_ishr C dX2_fieldA_3 ?_
  refine xr_bipush C (v := 7) dX2_fieldA_4 (by decide +kernel) ?_
  refine xr_iand C dX2_fieldA_6 ?_
  subst hf
  exact xr_iret C hlk hr dX2_fieldA_7
def f_X2_fieldB (x0 : Int32) : Int32 := ((x0 >>> (8 &&& 31)) &&& 7)
abbrev rmX2_fieldB : Room := { frames := 0, cells := 0, slots := 0, locals := 0 }
set_option maxHeartbeats 4000000 in
set_option maxRecDepth 100000 in
theorem c_X2_fieldB (l : Launch) (dC : Nat → ClassId) (dI : Nat → Nat → Nat) (cI cS : ClassId) (a : Nat → Nat) (hD : xD 95 a) (h0 : hp) (x0 : Int32) {r9 : Int32} (hf : f_X2_fieldB x0 = r9) : XMi l yX2_fieldB wsX2_fieldB rmX2_fieldB (dC, dI) vwCl (kty cI cS) 95 a (kcf cI cS a) h0 [.int x0] r9 h0 := by
  refine xm_i (cc := cX2_fieldB) (maxL := 1) (ws' := wsX2_fieldB.tail) (by decide) rfl hD (Nat.le_of_ble_eq_true rfl) [(0, .int x0)] rfl RX2 rfl ?_
  intro p e s m args below meth c C hlk hr
  unfold f_X2_fieldB at hf
  refine xr_iload_n C dX2_fieldB_0 0 rfl rfl ?_
  refine xr_bipush C (v := 8) dX2_fieldB_1 (by decide +kernel) ?_
  refine xr_ishr C dX2_fieldB_3 ?_
  refine xr_bipush C (v := 7) dX2_fieldB_4 (by decide +kernel) ?_
  refine xr_iand C dX2_fieldB_6 ?_
  subst hf
  exact xr_iret C hlk hr dX2_fieldB_7
def f_X2_fieldC (x0 : Int32) : Int32 := (x0 &&& 7)
abbrev rmX2_fieldC : Room := { frames := 0, cells := 0, slots := 0, locals := 0 }
set_option maxHeartbeats 4000000 in
set_option maxRecDepth 100000 in
theorem c_X2_fieldC (l : Launch) (dC : Nat → ClassId) (dI : Nat → Nat → Nat) (cI cS : ClassId) (a : Nat → Nat) (hD : xD 95 a) (h0 : hp) (x0 : Int32) {r9 : Int32} (hf : f_X2_fieldC x0 = r9) : XMi l yX2_fieldC wsX2_fieldC rmX2_fieldC (dC, dI) vwCl (kty cI cS) 95 a (kcf cI cS a) h0 [.int x0] r9 h0 := by
  refine xm_i (cc := cX2_fieldC) (maxL := 1) (ws' := wsX2_fieldC.tail) (by decide) rfl hD (Nat.le_of_ble_eq_true rfl) [(0, .int x0)] rfl RX2 rfl ?_
  intro p e s m args below meth c C hlk hr
  unfold f_X2_fieldC at hf
  refine xr_iload_n C dX2_fieldC_0 0 rfl rfl ?_
  refine xr_bipush C (v := 7) dX2_fieldC_1 (by decide +kernel) ?_
  refine xr_iand C dX2_fieldC_3 ?_
  subst hf
  exact xr_iret C hlk hr dX2_fieldC_4
def f_X2_signedByte (x0 : Int32) : Int32 := x0.toInt8.toInt32
abbrev rmX2_signedByte : Room := { frames := 0, cells := 0, slots := 0, locals := 0 }
set_option maxHeartbeats 4000000 in
set_option maxRecDepth 100000 in
theorem c_X2_signedByte (l : Launch) (dC : Nat → ClassId) (dI : Nat → Nat → Nat) (cI cS : ClassId) (a : Nat → Nat) (hD : xD 95 a) (h0 : hp) (x0 : Int32) {r9 : Int32} (hf : f_X2_signedByte x0 = r9) : XMi l yX2_signedByte wsX2_signedByte rmX2_signedByte (dC, dI) vwCl (kty cI cS) 95 a (kcf cI cS a) h0 [.int x0] r9 h0 := by
  refine xm_i (cc := cX2_signedByte) (maxL := 1) (ws' := wsX2_signedByte.tail) (by decide) rfl hD (Nat.le_of_ble_eq_true rfl) [(0, .int x0)] rfl RX2 rfl ?_
  intro p e s m args below meth c C hlk hr
  unfold f_X2_signedByte at hf
  refine xr_iload_n C dX2_signedByte_0 0 rfl rfl ?_
  refine xr_i2b C dX2_signedByte_1 ?_
  subst hf
  exact xr_iret C hlk hr dX2_signedByte_2
def f_X2_signedHalf (x0 : Int32) : Int32 := x0.toInt16.toInt32
abbrev rmX2_signedHalf : Room := { frames := 0, cells := 0, slots := 0, locals := 0 }
set_option maxHeartbeats 4000000 in
set_option maxRecDepth 100000 in
theorem c_X2_signedHalf (l : Launch) (dC : Nat → ClassId) (dI : Nat → Nat → Nat) (cI cS : ClassId) (a : Nat → Nat) (hD : xD 95 a) (h0 : hp) (x0 : Int32) {r9 : Int32} (hf : f_X2_signedHalf x0 = r9) : XMi l yX2_signedHalf wsX2_signedHalf rmX2_signedHalf (dC, dI) vwCl (kty cI cS) 95 a (kcf cI cS a) h0 [.int x0] r9 h0 := by
  refine xm_i (cc := cX2_signedHalf) (maxL := 1) (ws' := wsX2_signedHalf.tail) (by decide) rfl hD (Nat.le_of_ble_eq_true rfl) [(0, .int x0)] rfl RX2 rfl ?_
  intro p e s m args below meth c C hlk hr
  unfold f_X2_signedHalf at hf
  refine xr_iload_n C dX2_signedHalf_0 0 rfl rfl ?_
  refine xr_i2s C dX2_signedHalf_1 ?_
  subst hf
  exact xr_iret C hlk hr dX2_signedHalf_2
def f_X2_target (h0 : hp) (x1 : Int32) : Option Int32 := gd (¬ ((f_X2_fieldB x1) < 0 ∨ 8 ≤ (f_X2_fieldB x1).toNatClampNeg)) (some (f_X5_placeOf ((h0 2 (f_X2_fieldB x1).toNatClampNeg) + (f_X2_signedByte x1))))
abbrev rmX2_target : Room := { frames := 1, cells := 0, slots := 0, locals := 20 }
set_option maxHeartbeats 4000000 in
set_option maxRecDepth 100000 in
theorem c_X2_target (l : Launch) (dC : Nat → ClassId) (dI : Nat → Nat → Nat) (cI cS : ClassId) (a : Nat → Nat) (hD : xD 95 a) (h0 : hp) (x1 : Int32) {r9 : Int32} (hf : f_X2_target h0 x1 = some r9) : XMi l yX2_target wsX2_target rmX2_target (dC, dI) vwCl (kty cI cS) 95 a (kcf cI cS a) h0 [.ref (a 1), .int x1] r9 h0 := by
  refine xm_i (cc := cX2_target) (maxL := 2) (ws' := wsX2_target.tail) (by decide) rfl hD (Nat.le_of_ble_eq_true rfl) [(0, .ref (a 1)), (1, .int x1)] rfl RX2 rfl ?_
  intro p e s m args below meth c C hlk hr
  have wl9 : Cond.fieldLink RX2 9 "RewindBox$Machine" "registers" "[I" ∈ wsX2_target := by decide +kernel
  have wnX2 : ∀ w ∈ u_ws RX2 TX2 8, w ∈ wsX2_target := by decide +kernel
  have wiX5 : Cond.initialized RX5 ∈ wsX2_target := by decide +kernel
  have wtX5_placeOf : Cond.static yX5_placeOf ∈ wsX2_target := by decide +kernel
  unfold f_X2_target at hf
  refine xr_aload_n C dX2_target_0 0 rfl rfl ?_
  refine xr_get C (ci := 2) (Cn := RX2) (T := TX2) (N := 8) (v := .ref (a 2)) 1 (by decide) rfl rfl 0 (by decide) wnX2 wl9 rfl rfl dX2_target_1 ?_
  refine xr_iload_n C dX2_target_4 1 rfl rfl ?_
  refine xr_callSi C [.int x1] [.ref (a 2)] (c_X2_fieldB l dC dI cI cS a hD h0 x1 rfl) (va_cwS 1 C.2.2.1 gX2_target_X2_fieldB rfl rfl rfl (by decide +kernel) ⟨Nat.le_of_ble_eq_true rfl, Nat.le_of_ble_eq_true rfl⟩) rfl rfl (Nat.le_of_ble_eq_true rfl) dX2_target_5 ?_
  obtain ⟨gg1, hf⟩ := gd_some hf
  refine xr_iald C (v := h0 2 (f_X2_fieldB x1).toNatClampNeg) 2 (by decide) 0 rfl rfl gg1 rfl dX2_target_8 ?_
  refine xr_iload_n C dX2_target_9 1 rfl rfl ?_
  refine xr_callSi C [.int x1] [.int (h0 2 (f_X2_fieldB x1).toNatClampNeg)] (c_X2_signedByte l dC dI cI cS a hD h0 x1 rfl) (va_cwS 1 C.2.2.1 gX2_target_X2_signedByte rfl rfl rfl (by decide +kernel) ⟨Nat.le_of_ble_eq_true rfl, Nat.le_of_ble_eq_true rfl⟩) rfl rfl (Nat.le_of_ble_eq_true rfl) dX2_target_10 ?_
  refine xr_iadd C dX2_target_13 ?_
  refine xr_callSNi C [.int ((h0 2 (f_X2_fieldB x1).toNatClampNeg) + (f_X2_signedByte x1))] [] (c_X5_placeOf l dC dI cI cS a hD h0 ((h0 2 (f_X2_fieldB x1).toNatClampNeg) + (f_X2_signedByte x1)) rfl) ⟨va_cnB 1 C.2.2.1 gX2_target_X5_placeOf_n58 rfl rfl rfl (C.2.2.2.2.1.2 _ List.mem_cons_self) (C.2.2.1 _ wiX5) (by decide +kernel) ⟨Nat.le_of_ble_eq_true rfl, Nat.le_of_ble_eq_true rfl⟩, C.2.2.1 _ wtX5_placeOf, trivial⟩ rfl rfl (Nat.le_of_ble_eq_true rfl) dX2_target_14 ?_
  cases hf
  exact xr_iret C hlk hr dX2_target_17
