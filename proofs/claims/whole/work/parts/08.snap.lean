def f_X3_pageCount (h0 : hp) (k : Nat) : Option Int32 := some (f_J6_bitCount_0f7a4 (h0 (k + 15) 5))
abbrev rmX3_pageCount : Room := { frames := 1, cells := 0, slots := 0, locals := 20 }
set_option maxHeartbeats 4000000 in
set_option maxRecDepth 100000 in
theorem c_X3_pageCount (l : Launch) (dC : Nat → ClassId) (dI : Nat → Nat → Nat) (cI cS : ClassId) (a : Nat → Nat) (hD : xD 95 a) (h0 : hp) (k : Nat) (hkk : k < 40) {r9 : Int32} (hf : f_X3_pageCount h0 k = some r9) : XMi l yX3_pageCount wsX3_pageCount rmX3_pageCount (dC, dI) vwCl (kty cI cS) 95 a (kcf cI cS a) h0 [.ref (a (k + 15))] r9 h0 := by
  refine xm_i (cc := cX3_pageCount) (maxL := 1) (ws' := wsX3_pageCount.tail) (by decide) rfl hD (Nat.le_of_ble_eq_true rfl) [(0, .ref (a (k + 15)))] rfl RX3 rfl ?_
  intro p e s m args below meth c C hlk hr
  have wl15 : Cond.fieldLink RX3 15 "RewindBox$Snapshot" "written" "I" ∈ wsX3_pageCount := by decide +kernel
  have wnX3 : ∀ w ∈ u_ws RX3 TX3 7, w ∈ wsX3_pageCount := by decide +kernel
  unfold f_X3_pageCount at hf
  refine xr_aload_n C dX3_pageCount_0 0 rfl rfl ?_
  refine xr_get C (ci := 3) (Cn := RX3) (T := TX3) (N := 7) (v := .int (h0 (k + 15) 5)) (k + 15) (kid_s hkk) (kcf_snap hkk) rfl 5 (by decide) wnX3 wl15 rfl rfl dX3_pageCount_1 ?_
  refine xr_callSi C [.int (h0 (k + 15) 5)] [] (c_J6_bitCount_0f7a4 l dC dI cI cS a hD h0 (h0 (k + 15) 5) rfl) (va_cwS 1 C.2.2.1 gX3_pageCount_J6_bitCount_0f7a4 rfl rfl rfl (by decide +kernel) ⟨Nat.le_of_ble_eq_true rfl, Nat.le_of_ble_eq_true rfl⟩) rfl rfl (Nat.le_of_ble_eq_true rfl) dX3_pageCount_4 ?_
  cases hf
  exact xr_iret C hlk hr dX3_pageCount_7
def f_X3_hasPage (h0 : hp) (k : Nat) (x1 : Int32) : Option Int32 := if ((((h0 (k + 15) 5).toUInt32 >>> (x1.toUInt32 &&& Int32.toUInt32 31)).toInt32) &&& 1) = 1 then (some 1) else (some 0)
abbrev rmX3_hasPage : Room := { frames := 0, cells := 0, slots := 0, locals := 0 }
set_option maxHeartbeats 4000000 in
set_option maxRecDepth 100000 in
theorem c_X3_hasPage (l : Launch) (dC : Nat → ClassId) (dI : Nat → Nat → Nat) (cI cS : ClassId) (a : Nat → Nat) (hD : xD 95 a) (h0 : hp) (k : Nat) (hkk : k < 40) (x1 : Int32) {r9 : Int32} (hf : f_X3_hasPage h0 k x1 = some r9) : XMi l yX3_hasPage wsX3_hasPage rmX3_hasPage (dC, dI) vwCl (kty cI cS) 95 a (kcf cI cS a) h0 [.ref (a (k + 15)), .int x1] r9 h0 := by
  refine xm_i (cc := cX3_hasPage) (maxL := 2) (ws' := wsX3_hasPage.tail) (by decide) rfl hD (Nat.le_of_ble_eq_true rfl) [(0, .ref (a (k + 15))), (1, .int x1)] rfl RX3 rfl ?_
  intro p e s m args below meth c C hlk hr
  have wl15 : Cond.fieldLink RX3 15 "RewindBox$Snapshot" "written" "I" ∈ wsX3_hasPage := by decide +kernel
  have wnX3 : ∀ w ∈ u_ws RX3 TX3 7, w ∈ wsX3_hasPage := by decide +kernel
  unfold f_X3_hasPage at hf
  refine xr_aload_n C dX3_hasPage_0 0 rfl rfl ?_
  refine xr_get C (ci := 3) (Cn := RX3) (T := TX3) (N := 7) (v := .int (h0 (k + 15) 5)) (k + 15) (kid_s hkk) (kcf_snap hkk) rfl 5 (by decide) wnX3 wl15 rfl rfl dX3_hasPage_1 ?_
  refine xr_iload_n C dX3_hasPage_4 1 rfl rfl ?_
  refine xr_iushr C dX3_hasPage_5 ?_
  refine xr_iconst C (v := 1) dX3_hasPage_6 (by decide +kernel) ?_
  refine xr_iand C dX3_hasPage_7 ?_
  refine xr_iconst C (v := 1) dX3_hasPage_8 (by decide +kernel) ?_
  refine xr_icmp_ne C 16 dX3_hasPage_9 (by decide) (fun cd1 => ?_) (fun cd1 => ?_)
  · rw [if_neg cd1] at hf
    refine xr_iconst C (v := 0) dX3_hasPage_16 (by decide +kernel) ?_
    cases hf
    exact xr_zret C hlk hr (by decide +kernel) dX3_hasPage_17
  · rw [if_pos cd1] at hf
    refine xr_iconst C (v := 1) dX3_hasPage_12 (by decide +kernel) ?_
    refine xr_goto C 17 dX3_hasPage_13 (by decide) ?_
    cases hf
    exact xr_zret C hlk hr (by decide +kernel) dX3_hasPage_17
def f_X3_takeFrom (h : hp) (k : Nat) : Option hp := gd ((h 1 5) = 0 ∨ (h 1 5) = 1) (some (u2 (u2 (u2 (u2 (u2 (va_up h (k + 55) (va_cpy (h 2) (h (k + 55)) (0 : Int32).toNatClampNeg (0 : Int32).toNatClampNeg (8 : Int32).toNatClampNeg)) (k + 15) 1 (h 1 3)) (k + 15) 2 (h 1 4)) (k + 15) 3 (h 1 5)) (k + 15) 4 (h 1 6)) (k + 15) 5 (h 1 7)))
abbrev rmX3_takeFrom : Room := { frames := 1, cells := 0, slots := 0, locals := 18 }
set_option maxHeartbeats 4000000 in
set_option maxRecDepth 100000 in
theorem c_X3_takeFrom (l : Launch) (dC : Nat → ClassId) (dI : Nat → Nat → Nat) (cI cS : ClassId) (a : Nat → Nat) (hD : xD 95 a) (h : hp) (k : Nat) (hkk : k < 40) {h9 : hp} (hf : f_X3_takeFrom h k = some h9) : XMv l yX3_takeFrom wsX3_takeFrom rmX3_takeFrom (dC, dI) vwCl (kty cI cS) 95 a (kcf cI cS a) h [.ref (a (k + 15)), .ref (a 1)] h9 := by
  refine xm_v (cc := cX3_takeFrom) (maxL := 2) (ws' := wsX3_takeFrom.tail) (by decide) rfl hD (Nat.le_of_ble_eq_true rfl) [(0, .ref (a (k + 15))), (1, .ref (a 1))] rfl RX3 rfl ?_
  intro p e s m args below meth c C hlk hr
  have wl25 : Cond.fieldLink RX3 25 "RewindBox$Machine" "registers" "[I" ∈ wsX3_takeFrom := by decide +kernel
  have wnX2 : ∀ w ∈ u_ws RX2 TX2 8, w ∈ wsX3_takeFrom := by decide +kernel
  have wl9 : Cond.fieldLink RX3 9 "RewindBox$Snapshot" "registers" "[I" ∈ wsX3_takeFrom := by decide +kernel
  have wnX3 : ∀ w ∈ u_ws RX3 TX3 7, w ∈ wsX3_takeFrom := by decide +kernel
  have wa28 : Cond.methodLink RX3 28 arraycopyName ∈ wsX3_takeFrom := by decide +kernel
  have wan : Cond.native arraycopyName ∈ wsX3_takeFrom := by decide +kernel
  have was : Cond.static arraycopyName ∈ wsX3_takeFrom := by decide +kernel
  have wai : Cond.initialized "java/lang/System" ∈ wsX3_takeFrom := by decide +kernel
  have wl34 : Cond.fieldLink RX3 34 "RewindBox$Machine" "pc" "I" ∈ wsX3_takeFrom := by decide +kernel
  have wl37 : Cond.fieldLink RX3 37 "RewindBox$Snapshot" "pc" "I" ∈ wsX3_takeFrom := by decide +kernel
  have wl38 : Cond.fieldLink RX3 38 "RewindBox$Machine" "back" "I" ∈ wsX3_takeFrom := by decide +kernel
  have wl41 : Cond.fieldLink RX3 41 "RewindBox$Snapshot" "back" "I" ∈ wsX3_takeFrom := by decide +kernel
  have wl42 : Cond.fieldLink RX3 42 "RewindBox$Machine" "open" "Z" ∈ wsX3_takeFrom := by decide +kernel
  have wl46 : Cond.fieldLink RX3 46 "RewindBox$Snapshot" "open" "Z" ∈ wsX3_takeFrom := by decide +kernel
  have wl47 : Cond.fieldLink RX3 47 "RewindBox$Machine" "outCount" "I" ∈ wsX3_takeFrom := by decide +kernel
  have wl50 : Cond.fieldLink RX3 50 "RewindBox$Snapshot" "outCount" "I" ∈ wsX3_takeFrom := by decide +kernel
  have wl51 : Cond.fieldLink RX3 51 "RewindBox$Machine" "written" "I" ∈ wsX3_takeFrom := by decide +kernel
  have wl15 : Cond.fieldLink RX3 15 "RewindBox$Snapshot" "written" "I" ∈ wsX3_takeFrom := by decide +kernel
  unfold f_X3_takeFrom at hf
  refine xr_aload_n C dX3_takeFrom_0 1 rfl rfl ?_
  refine xr_get C (ci := 2) (Cn := RX2) (T := TX2) (N := 8) (v := .ref (a 2)) 1 (by decide) rfl rfl 0 (by decide) wnX2 wl25 rfl rfl dX3_takeFrom_1 ?_
  refine xr_iconst C (v := 0) dX3_takeFrom_4 (by decide +kernel) ?_
  refine xr_aload_n C dX3_takeFrom_5 0 rfl rfl ?_
  refine xr_get C (ci := 3) (Cn := RX3) (T := TX3) (N := 7) (v := .ref (a (k + 55))) (k + 15) (kid_s hkk) (kcf_snap hkk) rfl 0 (by decide) wnX3 wl9 rfl rfl dX3_takeFrom_6 ?_
  refine xr_iconst C (v := 0) dX3_takeFrom_9 (by decide +kernel) ?_
  refine xr_bipush C (v := 8) dX3_takeFrom_10 (by decide +kernel) ?_
  refine xr_copy C 2 (k + 55) (by decide) (kid_r hkk) 0 rfl kcf_regs rfl wa28 wan was wai (by decide) (Nat.le_of_ble_eq_true rfl) (Nat.le_of_ble_eq_true rfl) dX3_takeFrom_12 ?_
  refine xr_aload_n C dX3_takeFrom_15 0 rfl rfl ?_
  refine xr_aload_n C dX3_takeFrom_16 1 rfl rfl ?_
  refine xr_get C (ci := 2) (Cn := RX2) (T := TX2) (N := 8) (v := .int (h 1 3)) 1 (by decide) rfl rfl 3 (by decide) wnX2 wl34 rfl rfl dX3_takeFrom_17 ?_
  refine xr_put C (ci := 3) (Cn := RX3) (T := TX3) (N := 7) (ty := .int) (v := h 1 3) (k + 15) (kid_s hkk) (kcf_snap hkk) rfl 1 (by decide) wnX3 wl37 rfl tyX3 tyX3_ok nmX3 rfl (by decide +kernel) rfl rfl (Nat.le_of_ble_eq_true rfl) (kcf_snap hkk) dX3_takeFrom_20 ?_
  refine xr_aload_n C dX3_takeFrom_23 0 rfl rfl ?_
  refine xr_aload_n C dX3_takeFrom_24 1 rfl rfl ?_
  refine xr_get C (ci := 2) (Cn := RX2) (T := TX2) (N := 8) (v := .int (h 1 4)) 1 (by decide) rfl rfl 4 (by decide) wnX2 wl38 rfl rfl dX3_takeFrom_25 ?_
  refine xr_put C (ci := 3) (Cn := RX3) (T := TX3) (N := 7) (ty := .int) (v := h 1 4) (k + 15) (kid_s hkk) (kcf_snap hkk) rfl 2 (by decide) wnX3 wl41 rfl tyX3 tyX3_ok nmX3 rfl (by decide +kernel) rfl rfl (Nat.le_of_ble_eq_true rfl) (kcf_snap hkk) dX3_takeFrom_28 ?_
  refine xr_aload_n C dX3_takeFrom_31 0 rfl rfl ?_
  refine xr_aload_n C dX3_takeFrom_32 1 rfl rfl ?_
  refine xr_get C (ci := 2) (Cn := RX2) (T := TX2) (N := 8) (v := .int (h 1 5)) 1 (by decide) rfl rfl 5 (by decide) wnX2 wl42 rfl rfl dX3_takeFrom_33 ?_
  obtain ⟨gg2, hf⟩ := gd_some hf
  refine xr_put C (ci := 3) (Cn := RX3) (T := TX3) (N := 7) (ty := .boolean) (v := h 1 5) (k + 15) (kid_s hkk) (kcf_snap hkk) rfl 3 (by decide) wnX3 wl46 rfl tyX3 tyX3_ok nmX3 rfl (by decide +kernel) (xb_z gg2).1 (xb_z gg2).2.1 (Nat.le_of_ble_eq_true rfl) (kcf_snap hkk) dX3_takeFrom_36 ?_
  refine xr_aload_n C dX3_takeFrom_39 0 rfl rfl ?_
  refine xr_aload_n C dX3_takeFrom_40 1 rfl rfl ?_
  refine xr_get C (ci := 2) (Cn := RX2) (T := TX2) (N := 8) (v := .int (h 1 6)) 1 (by decide) rfl rfl 6 (by decide) wnX2 wl47 rfl rfl dX3_takeFrom_41 ?_
  refine xr_put C (ci := 3) (Cn := RX3) (T := TX3) (N := 7) (ty := .int) (v := h 1 6) (k + 15) (kid_s hkk) (kcf_snap hkk) rfl 4 (by decide) wnX3 wl50 rfl tyX3 tyX3_ok nmX3 rfl (by decide +kernel) rfl rfl (Nat.le_of_ble_eq_true rfl) (kcf_snap hkk) dX3_takeFrom_44 ?_
  refine xr_aload_n C dX3_takeFrom_47 0 rfl rfl ?_
  refine xr_aload_n C dX3_takeFrom_48 1 rfl rfl ?_
  refine xr_get C (ci := 2) (Cn := RX2) (T := TX2) (N := 8) (v := .int (h 1 7)) 1 (by decide) rfl rfl 7 (by decide) wnX2 wl51 rfl rfl dX3_takeFrom_49 ?_
  refine xr_put C (ci := 3) (Cn := RX3) (T := TX3) (N := 7) (ty := .int) (v := h 1 7) (k + 15) (kid_s hkk) (kcf_snap hkk) rfl 5 (by decide) wnX3 wl15 rfl tyX3 tyX3_ok nmX3 rfl (by decide +kernel) rfl rfl (Nat.le_of_ble_eq_true rfl) (kcf_snap hkk) dX3_takeFrom_52 ?_
  cases hf
  exact xr_vret C hlk hr dX3_takeFrom_55
def f_X3_giveBackTo (h : hp) (k : Nat) : Option hp := gd ((h (k + 15) 3) = 0 ∨ (h (k + 15) 3) = 1) (some (u2 (u2 (u2 (u2 (u2 (va_up h 2 (va_cpy (h (k + 55)) (h 2) (0 : Int32).toNatClampNeg (0 : Int32).toNatClampNeg (8 : Int32).toNatClampNeg)) 1 3 (h (k + 15) 1)) 1 4 (h (k + 15) 2)) 1 5 (h (k + 15) 3)) 1 6 (h (k + 15) 4)) 1 7 0))
abbrev rmX3_giveBackTo : Room := { frames := 1, cells := 0, slots := 0, locals := 18 }
set_option maxHeartbeats 4000000 in
set_option maxRecDepth 100000 in
theorem c_X3_giveBackTo (l : Launch) (dC : Nat → ClassId) (dI : Nat → Nat → Nat) (cI cS : ClassId) (a : Nat → Nat) (hD : xD 95 a) (h : hp) (k : Nat) (hkk : k < 40) {h9 : hp} (hf : f_X3_giveBackTo h k = some h9) : XMv l yX3_giveBackTo wsX3_giveBackTo rmX3_giveBackTo (dC, dI) vwCl (kty cI cS) 95 a (kcf cI cS a) h [.ref (a (k + 15)), .ref (a 1)] h9 := by
  refine xm_v (cc := cX3_giveBackTo) (maxL := 2) (ws' := wsX3_giveBackTo.tail) (by decide) rfl hD (Nat.le_of_ble_eq_true rfl) [(0, .ref (a (k + 15))), (1, .ref (a 1))] rfl RX3 rfl ?_
  intro p e s m args below meth c C hlk hr
  have wl9 : Cond.fieldLink RX3 9 "RewindBox$Snapshot" "registers" "[I" ∈ wsX3_giveBackTo := by decide +kernel
  have wnX3 : ∀ w ∈ u_ws RX3 TX3 7, w ∈ wsX3_giveBackTo := by decide +kernel
  have wl25 : Cond.fieldLink RX3 25 "RewindBox$Machine" "registers" "[I" ∈ wsX3_giveBackTo := by decide +kernel
  have wnX2 : ∀ w ∈ u_ws RX2 TX2 8, w ∈ wsX3_giveBackTo := by decide +kernel
  have wa28 : Cond.methodLink RX3 28 arraycopyName ∈ wsX3_giveBackTo := by decide +kernel
  have wan : Cond.native arraycopyName ∈ wsX3_giveBackTo := by decide +kernel
  have was : Cond.static arraycopyName ∈ wsX3_giveBackTo := by decide +kernel
  have wai : Cond.initialized "java/lang/System" ∈ wsX3_giveBackTo := by decide +kernel
  have wl37 : Cond.fieldLink RX3 37 "RewindBox$Snapshot" "pc" "I" ∈ wsX3_giveBackTo := by decide +kernel
  have wl34 : Cond.fieldLink RX3 34 "RewindBox$Machine" "pc" "I" ∈ wsX3_giveBackTo := by decide +kernel
  have wl41 : Cond.fieldLink RX3 41 "RewindBox$Snapshot" "back" "I" ∈ wsX3_giveBackTo := by decide +kernel
  have wl38 : Cond.fieldLink RX3 38 "RewindBox$Machine" "back" "I" ∈ wsX3_giveBackTo := by decide +kernel
  have wl46 : Cond.fieldLink RX3 46 "RewindBox$Snapshot" "open" "Z" ∈ wsX3_giveBackTo := by decide +kernel
  have wl42 : Cond.fieldLink RX3 42 "RewindBox$Machine" "open" "Z" ∈ wsX3_giveBackTo := by decide +kernel
  have wl50 : Cond.fieldLink RX3 50 "RewindBox$Snapshot" "outCount" "I" ∈ wsX3_giveBackTo := by decide +kernel
  have wl47 : Cond.fieldLink RX3 47 "RewindBox$Machine" "outCount" "I" ∈ wsX3_giveBackTo := by decide +kernel
  have wl51 : Cond.fieldLink RX3 51 "RewindBox$Machine" "written" "I" ∈ wsX3_giveBackTo := by decide +kernel
  unfold f_X3_giveBackTo at hf
  refine xr_aload_n C dX3_giveBackTo_0 0 rfl rfl ?_
  refine xr_get C (ci := 3) (Cn := RX3) (T := TX3) (N := 7) (v := .ref (a (k + 55))) (k + 15) (kid_s hkk) (kcf_snap hkk) rfl 0 (by decide) wnX3 wl9 rfl rfl dX3_giveBackTo_1 ?_
  refine xr_iconst C (v := 0) dX3_giveBackTo_4 (by decide +kernel) ?_
  refine xr_aload_n C dX3_giveBackTo_5 1 rfl rfl ?_
  refine xr_get C (ci := 2) (Cn := RX2) (T := TX2) (N := 8) (v := .ref (a 2)) 1 (by decide) rfl rfl 0 (by decide) wnX2 wl25 rfl rfl dX3_giveBackTo_6 ?_
  refine xr_iconst C (v := 0) dX3_giveBackTo_9 (by decide +kernel) ?_
  refine xr_bipush C (v := 8) dX3_giveBackTo_10 (by decide +kernel) ?_
  refine xr_copy C (k + 55) 2 (kid_r hkk) (by decide) 0 (kcf_regs _) (fun _ => rfl) rfl wa28 wan was wai (by decide) (Nat.le_of_ble_eq_true rfl) (Nat.le_of_ble_eq_true rfl) dX3_giveBackTo_12 ?_
  refine xr_aload_n C dX3_giveBackTo_15 1 rfl rfl ?_
  refine xr_aload_n C dX3_giveBackTo_16 0 rfl rfl ?_
  refine xr_get C (ci := 3) (Cn := RX3) (T := TX3) (N := 7) (v := .int (h (k + 15) 1)) (k + 15) (kid_s hkk) (kcf_snap hkk) rfl 1 (by decide) wnX3 wl37 rfl rfl dX3_giveBackTo_17 ?_
  refine xr_put C (ci := 2) (Cn := RX2) (T := TX2) (N := 8) (ty := .int) (v := h (k + 15) 1) 1 (by decide) rfl rfl 3 (by decide) wnX2 wl34 rfl tyX2 tyX2_ok nmX2 rfl (by decide +kernel) rfl rfl (Nat.le_of_ble_eq_true rfl) rfl dX3_giveBackTo_20 ?_
  refine xr_aload_n C dX3_giveBackTo_23 1 rfl rfl ?_
  refine xr_aload_n C dX3_giveBackTo_24 0 rfl rfl ?_
  refine xr_get C (ci := 3) (Cn := RX3) (T := TX3) (N := 7) (v := .int (h (k + 15) 2)) (k + 15) (kid_s hkk) (kcf_snap hkk) rfl 2 (by decide) wnX3 wl41 rfl rfl dX3_giveBackTo_25 ?_
  refine xr_put C (ci := 2) (Cn := RX2) (T := TX2) (N := 8) (ty := .int) (v := h (k + 15) 2) 1 (by decide) rfl rfl 4 (by decide) wnX2 wl38 rfl tyX2 tyX2_ok nmX2 rfl (by decide +kernel) rfl rfl (Nat.le_of_ble_eq_true rfl) rfl dX3_giveBackTo_28 ?_
  refine xr_aload_n C dX3_giveBackTo_31 1 rfl rfl ?_
  refine xr_aload_n C dX3_giveBackTo_32 0 rfl rfl ?_
  refine xr_get C (ci := 3) (Cn := RX3) (T := TX3) (N := 7) (v := .int (h (k + 15) 3)) (k + 15) (kid_s hkk) (kcf_snap hkk) rfl 3 (by decide) wnX3 wl46 rfl rfl dX3_giveBackTo_33 ?_
  obtain ⟨gg2, hf⟩ := gd_some hf
  refine xr_put C (ci := 2) (Cn := RX2) (T := TX2) (N := 8) (ty := .boolean) (v := h (k + 15) 3) 1 (by decide) rfl rfl 5 (by decide) wnX2 wl42 rfl tyX2 tyX2_ok nmX2 rfl (by decide +kernel) (xb_z gg2).1 (xb_z gg2).2.1 (Nat.le_of_ble_eq_true rfl) rfl dX3_giveBackTo_36 ?_
  refine xr_aload_n C dX3_giveBackTo_39 1 rfl rfl ?_
  refine xr_aload_n C dX3_giveBackTo_40 0 rfl rfl ?_
  refine xr_get C (ci := 3) (Cn := RX3) (T := TX3) (N := 7) (v := .int (h (k + 15) 4)) (k + 15) (kid_s hkk) (kcf_snap hkk) rfl 4 (by decide) wnX3 wl50 rfl rfl dX3_giveBackTo_41 ?_
  refine xr_put C (ci := 2) (Cn := RX2) (T := TX2) (N := 8) (ty := .int) (v := h (k + 15) 4) 1 (by decide) rfl rfl 6 (by decide) wnX2 wl47 rfl tyX2 tyX2_ok nmX2 rfl (by decide +kernel) rfl rfl (Nat.le_of_ble_eq_true rfl) rfl dX3_giveBackTo_44 ?_
  refine xr_aload_n C dX3_giveBackTo_47 1 rfl rfl ?_
  refine xr_iconst C (v := 0) dX3_giveBackTo_48 (by decide +kernel) ?_
  refine xr_put C (ci := 2) (Cn := RX2) (T := TX2) (N := 8) (ty := .int) (v := 0) 1 (by decide) rfl rfl 7 (by decide) wnX2 wl51 rfl tyX2 tyX2_ok nmX2 rfl (by decide +kernel) rfl rfl (Nat.le_of_ble_eq_true rfl) rfl dX3_giveBackTo_49 ?_
  cases hf
  exact xr_vret C hlk hr dX3_giveBackTo_52
def f_X4_hasRoomFor (h0 : hp) (x1 : Int32) : Option Int32 := if 40 ≤ h0 11 3 then (some 0) else (if 300 < ((h0 11 4) + (f_J6_bitCount_0f7a4 x1)) then (some 0) else (some 1))
abbrev rmX4_hasRoomFor : Room := { frames := 1, cells := 0, slots := 0, locals := 20 }
set_option maxHeartbeats 4000000 in
set_option maxRecDepth 100000 in
theorem c_X4_hasRoomFor (l : Launch) (dC : Nat → ClassId) (dI : Nat → Nat → Nat) (cI cS : ClassId) (a : Nat → Nat) (hD : xD 95 a) (h0 : hp) (x1 : Int32) {r9 : Int32} (hf : f_X4_hasRoomFor h0 x1 = some r9) : XMi l yX4_hasRoomFor wsX4_hasRoomFor rmX4_hasRoomFor (dC, dI) vwCl (kty cI cS) 95 a (kcf cI cS a) h0 [.ref (a 11), .int x1] r9 h0 := by
  refine xm_i (cc := cX4_hasRoomFor) (maxL := 2) (ws' := wsX4_hasRoomFor.tail) (by decide) rfl hD (Nat.le_of_ble_eq_true rfl) [(0, .ref (a 11)), (1, .int x1)] rfl RX4 rfl ?_
  intro p e s m args below meth c C hlk hr
  have wl36 : Cond.fieldLink RX4 36 "RewindBox$Snapshots" "count" "I" ∈ wsX4_hasRoomFor := by decide +kernel
  have wnX4 : ∀ w ∈ u_ws RX4 TX4 5, w ∈ wsX4_hasRoomFor := by decide +kernel
  have wl40 : Cond.fieldLink RX4 40 "RewindBox$Snapshots" "pages" "I" ∈ wsX4_hasRoomFor := by decide +kernel
  unfold f_X4_hasRoomFor at hf
  refine xr_aload_n C dX4_hasRoomFor_0 0 rfl rfl ?_
  refine xr_get C (ci := 4) (Cn := RX4) (T := TX4) (N := 5) (v := .int (h0 11 3)) 11 (by decide) rfl rfl 3 (by decide) wnX4 wl36 rfl rfl dX4_hasRoomFor_1 ?_
  refine xr_bipush C (v := 40) dX4_hasRoomFor_4 (by decide +kernel) ?_
  refine xr_icmp_ge C 28 dX4_hasRoomFor_6 (by decide) (fun cd1 => ?_) (fun cd1 => ?_)
  · rw [if_pos cd1] at hf
    refine xr_iconst C (v := 0) dX4_hasRoomFor_28 (by decide +kernel) ?_
    cases hf
    exact xr_zret C hlk hr (by decide +kernel) dX4_hasRoomFor_29
  · rw [if_neg cd1] at hf
    refine xr_aload_n C dX4_hasRoomFor_9 0 rfl rfl ?_
    refine xr_get C (ci := 4) (Cn := RX4) (T := TX4) (N := 5) (v := .int (h0 11 4)) 11 (by decide) rfl rfl 4 (by decide) wnX4 wl40 rfl rfl dX4_hasRoomFor_10 ?_
    refine xr_iload_n C dX4_hasRoomFor_13 1 rfl rfl ?_
    refine xr_callSi C [.int x1] [.int (h0 11 4)] (c_J6_bitCount_0f7a4 l dC dI cI cS a hD h0 x1 rfl) (va_cwS 1 C.2.2.1 gX4_hasRoomFor_J6_bitCount_0f7a4 rfl rfl rfl (by decide +kernel) ⟨Nat.le_of_ble_eq_true rfl, Nat.le_of_ble_eq_true rfl⟩) rfl rfl (Nat.le_of_ble_eq_true rfl) dX4_hasRoomFor_14 ?_
    refine xr_iadd C dX4_hasRoomFor_17 ?_
    refine xr_sipush C (v := 300) dX4_hasRoomFor_18 (by decide +kernel) ?_
    refine xr_icmp_gt C 28 dX4_hasRoomFor_21 (by decide) (fun cd2 => ?_) (fun cd2 => ?_)
    · rw [if_pos cd2] at hf
      refine xr_iconst C (v := 0) dX4_hasRoomFor_28 (by decide +kernel) ?_
      cases hf
      exact xr_zret C hlk hr (by decide +kernel) dX4_hasRoomFor_29
    · rw [if_neg cd2] at hf
      refine xr_iconst C (v := 1) dX4_hasRoomFor_24 (by decide +kernel) ?_
      refine xr_goto C 29 dX4_hasRoomFor_25 (by decide) ?_
      cases hf
      exact xr_zret C hlk hr (by decide +kernel) dX4_hasRoomFor_29
def f_X4_add_25 : Nat → hp → Nat → Int32 → Option hp
  | 0, _, _, _ => none
  | n + 1, h, k2, x3 => if 32 ≤ x3 then (some (u2 h 11 3 ((h 11 3) + 1))) else (bR (f_X3_hasPage h k2 x3) (fun rr7 => if rr7 = 0 then (f_X4_add_25 n h k2 (x3 + 1)) else (gd ((¬ (x3 * 16) < 0 ∧ ¬ ((h 11 4) * 16) < 0 ∧ ¬ (16 : Int32) < 0) ∧ (x3 * 16).toNatClampNeg + (16 : Int32).toNatClampNeg ≤ 512 ∧ ((h 11 4) * 16).toNatClampNeg + (16 : Int32).toNatClampNeg ≤ 4800) (f_X4_add_25 n (u2 (va_up h 13 (va_cpy (h 3) (h 13) (x3 * 16).toNatClampNeg ((h 11 4) * 16).toNatClampNeg (16 : Int32).toNatClampNeg)) 11 4 ((h 11 4) + 1)) k2 (x3 + 1)))))
def f_X4_add (h : hp)  : Option hp := gd (¬ ((h 11 3) < 0 ∨ 40 ≤ (h 11 3).toNatClampNeg)) (bV (f_X3_takeFrom h ((h 11 3).toNatClampNeg)) (fun hh4 => f_X4_add_25 1000 (u2 hh4 ((h 11 3).toNatClampNeg + 15) 6 (hh4 11 4)) (h 11 3).toNatClampNeg 0))
abbrev rmX4_add : Room := { frames := 2, cells := 0, slots := 0, locals := 39 }
set_option maxHeartbeats 4000000 in
set_option maxRecDepth 100000 in
theorem c_X4_add (l : Launch) (dC : Nat → ClassId) (dI : Nat → Nat → Nat) (cI cS : ClassId) (a : Nat → Nat) (hD : xD 95 a) (h : hp)  {h9 : hp} (hf : f_X4_add h  = some h9) : XMv l yX4_add wsX4_add rmX4_add (dC, dI) vwCl (kty cI cS) 95 a (kcf cI cS a) h [.ref (a 11), .ref (a 1)] h9 := by
  refine xm_v (cc := cX4_add) (maxL := 4) (ws' := wsX4_add.tail) (by decide) rfl hD (Nat.le_of_ble_eq_true rfl) [(0, .ref (a 11)), (1, .ref (a 1))] rfl RX4 rfl ?_
  intro p e s m args below meth c C hlk hr
  have wl20 : Cond.fieldLink RX4 20 "RewindBox$Snapshots" "row" "[LRewindBox$Snapshot;" ∈ wsX4_add := by decide +kernel
  have wnX4 : ∀ w ∈ u_ws RX4 TX4 5, w ∈ wsX4_add := by decide +kernel
  have wl36 : Cond.fieldLink RX4 36 "RewindBox$Snapshots" "count" "I" ∈ wsX4_add := by decide +kernel
  have wl40 : Cond.fieldLink RX4 40 "RewindBox$Snapshots" "pages" "I" ∈ wsX4_add := by decide +kernel
  have wl56 : Cond.fieldLink RX4 56 "RewindBox$Snapshot" "firstPage" "I" ∈ wsX4_add := by decide +kernel
  have wnX3 : ∀ w ∈ u_ws RX3 TX3 7, w ∈ wsX4_add := by decide +kernel
  have wl25 : Cond.fieldLink RX4 25 "RewindBox$Machine" "memory" "[I" ∈ wsX4_add := by decide +kernel
  have wnX2 : ∀ w ∈ u_ws RX2 TX2 8, w ∈ wsX4_add := by decide +kernel
  have wl15 : Cond.fieldLink RX4 15 "RewindBox$Snapshots" "pageWords" "[I" ∈ wsX4_add := by decide +kernel
  have wa30 : Cond.methodLink RX4 30 arraycopyName ∈ wsX4_add := by decide +kernel
  have wan : Cond.native arraycopyName ∈ wsX4_add := by decide +kernel
  have was : Cond.static arraycopyName ∈ wsX4_add := by decide +kernel
  have wai : Cond.initialized "java/lang/System" ∈ wsX4_add := by decide +kernel
  have lab25 : ∀ (n : Nat) (h : hp) (k2 : Nat) (x3 : Int32) (hkk2 : k2 < 40), f_X4_add_25 n h k2 x3 = some h9 → XJ p l e rmX4_add s m args below meth c (dC, dI) vwCl 95 a (kcf cI cS a) 4 (MQ below (XQv (dC, dI) vwCl 95 a (kcf cI cS a) h9) args s 0 0 (xA 95 a)) h [(0, .ref (a 11)), (1, .ref (a 1)), (2, .ref (a (k2 + 15))), (3, .int x3)] [] 25 := by
    intro n
    induction n with
    | zero => intro h k2 x3 _ hf; simp [f_X4_add_25] at hf
    | succ n ih =>
      intro h k2 x3 hkk2 hf
      rw [f_X4_add_25] at hf
      refine xr_iload_n C dX4_add_25 3 rfl rfl ?_
      refine xr_bipush C (v := 32) dX4_add_26 (by decide +kernel) ?_
      refine xr_icmp_ge C 79 dX4_add_28 (by decide) (fun cd5 => ?_) (fun cd5 => ?_)
      · rw [if_pos cd5] at hf
        refine xr_aload_n C dX4_add_79 0 rfl rfl ?_
        refine xr_dup C dX4_add_80 rfl ?_
        refine xr_get C (ci := 4) (Cn := RX4) (T := TX4) (N := 5) (v := .int (h 11 3)) 11 (by decide) rfl rfl 3 (by decide) wnX4 wl36 rfl rfl dX4_add_81 ?_
        refine xr_iconst C (v := 1) dX4_add_84 (by decide +kernel) ?_
        refine xr_iadd C dX4_add_85 ?_
        refine xr_put C (ci := 4) (Cn := RX4) (T := TX4) (N := 5) (ty := .int) (v := ((h 11 3) + 1)) 11 (by decide) rfl rfl 3 (by decide) wnX4 wl36 rfl tyX4 tyX4_ok nmX4 rfl (by decide +kernel) rfl rfl (Nat.le_of_ble_eq_true rfl) rfl dX4_add_86 ?_
        cases hf
        exact xr_vret C hlk hr dX4_add_89
      · rw [if_neg cd5] at hf
        refine xr_aload_n C dX4_add_31 2 rfl rfl ?_
        refine xr_iload_n C dX4_add_32 3 rfl rfl ?_
        obtain ⟨rr7, ee6, hf⟩ := bR_some hf
        refine xr_callVi C (Cn := RX3) (k2 + 15) (kid_s hkk2) (kcf_snap hkk2) rfl [.int x3] [] (c_X3_hasPage l dC dI cI cS a hD h k2 hkk2 x3 ee6) (cwV 1 C.2.2.1 gX4_add_X3_hasPage rfl rfl rfl (by decide +kernel) ⟨Nat.le_of_ble_eq_true rfl, Nat.le_of_ble_eq_true rfl⟩) rfl rfl (Nat.le_of_ble_eq_true rfl) dX4_add_33 ?_
        refine xr_if_eq C 73 dX4_add_36 (by decide) (fun cd8 => ?_) (fun cd8 => ?_)
        · rw [if_pos cd8] at hf
          refine xr_iinc C [(3, .int (x3 + 1)), (0, .ref (a 11)), (1, .ref (a 1)), (2, .ref (a (k2 + 15)))] dX4_add_73 3 rfl rfl (by decide) rfl ?_
          refine xr_goto C 25 dX4_add_76 (by decide) ?_
          exact xr_sub C [1, 2, 3, 0] rfl (ih h k2 (x3 + 1) hkk2 hf)
        · rw [if_neg cd8] at hf
          refine xr_aload_n C dX4_add_39 1 rfl rfl ?_
          refine xr_get C (ci := 2) (Cn := RX2) (T := TX2) (N := 8) (v := .ref (a 3)) 1 (by decide) rfl rfl 1 (by decide) wnX2 wl25 rfl rfl dX4_add_40 ?_
          refine xr_iload_n C dX4_add_43 3 rfl rfl ?_
          refine xr_bipush C (v := 16) dX4_add_44 (by decide +kernel) ?_
          refine xr_imul C dX4_add_46 ?_
          refine xr_aload_n C dX4_add_47 0 rfl rfl ?_
          refine xr_get C (ci := 4) (Cn := RX4) (T := TX4) (N := 5) (v := .ref (a 13)) 11 (by decide) rfl rfl 1 (by decide) wnX4 wl15 rfl rfl dX4_add_48 ?_
          refine xr_aload_n C dX4_add_51 0 rfl rfl ?_
          refine xr_get C (ci := 4) (Cn := RX4) (T := TX4) (N := 5) (v := .int (h 11 4)) 11 (by decide) rfl rfl 4 (by decide) wnX4 wl40 rfl rfl dX4_add_52 ?_
          refine xr_bipush C (v := 16) dX4_add_55 (by decide +kernel) ?_
          refine xr_imul C dX4_add_57 ?_
          refine xr_bipush C (v := 16) dX4_add_58 (by decide +kernel) ?_
          obtain ⟨gg9, hf⟩ := gd_some hf
          refine xr_copy C 3 13 (by decide) (by decide) 0 rfl (fun _ => rfl) rfl wa30 wan was wai gg9 (Nat.le_of_ble_eq_true rfl) (Nat.le_of_ble_eq_true rfl) dX4_add_60 ?_
          refine xr_aload_n C dX4_add_63 0 rfl rfl ?_
          refine xr_dup C dX4_add_64 rfl ?_
          refine xr_get C (ci := 4) (Cn := RX4) (T := TX4) (N := 5) (v := .int (h 11 4)) 11 (by decide) rfl rfl 4 (by decide) wnX4 wl40 rfl rfl dX4_add_65 ?_
          refine xr_iconst C (v := 1) dX4_add_68 (by decide +kernel) ?_
          refine xr_iadd C dX4_add_69 ?_
          refine xr_put C (ci := 4) (Cn := RX4) (T := TX4) (N := 5) (ty := .int) (v := ((h 11 4) + 1)) 11 (by decide) rfl rfl 4 (by decide) wnX4 wl40 rfl tyX4 tyX4_ok nmX4 rfl (by decide +kernel) rfl rfl (Nat.le_of_ble_eq_true rfl) rfl dX4_add_70 ?_
          refine xr_iinc C [(3, .int (x3 + 1)), (0, .ref (a 11)), (1, .ref (a 1)), (2, .ref (a (k2 + 15)))] dX4_add_73 3 rfl rfl (by decide) rfl ?_
          refine xr_goto C 25 dX4_add_76 (by decide) ?_
          exact xr_sub C [1, 2, 3, 0] rfl (ih (u2 (va_up h 13 (va_cpy (h 3) (h 13) (x3 * 16).toNatClampNeg ((h 11 4) * 16).toNatClampNeg (16 : Int32).toNatClampNeg)) 11 4 ((h 11 4) + 1)) k2 (x3 + 1) hkk2 hf)
  unfold f_X4_add at hf
  refine xr_aload_n C dX4_add_0 0 rfl rfl ?_
  refine xr_get C (ci := 4) (Cn := RX4) (T := TX4) (N := 5) (v := .ref (a 14)) 11 (by decide) rfl rfl 2 (by decide) wnX4 wl20 rfl rfl dX4_add_1 ?_
  refine xr_aload_n C dX4_add_4 0 rfl rfl ?_
  refine xr_get C (ci := 4) (Cn := RX4) (T := TX4) (N := 5) (v := .int (h 11 3)) 11 (by decide) rfl rfl 3 (by decide) wnX4 wl36 rfl rfl dX4_add_5 ?_
  obtain ⟨gg1, hf⟩ := gd_some hf
  refine xr_aald C (f := fun k => some (a (k + 15))) 14 (by decide) 1 rfl rfl gg1 rfl dX4_add_8 ?_
  have hk_h_11_3_toNatClampNeg := gd_lt gg1
  refine xr_astore_n C [(2, .ref (a ((h 11 3).toNatClampNeg + 15))), (0, .ref (a 11)), (1, .ref (a 1))] dX4_add_9 rfl (by decide) rfl ?_
  refine xr_aload_n C dX4_add_10 0 rfl rfl ?_
  refine xr_aload_n C dX4_add_11 2 rfl rfl ?_
  obtain ⟨hh4, ee3, hf⟩ := bV_some hf
  refine xr_callVv C (Cn := RX3) ((h 11 3).toNatClampNeg + 15) (kid_s hk_h_11_3_toNatClampNeg) (kcf_snap hk_h_11_3_toNatClampNeg) rfl [.ref (a 1)] [] (c_X3_takeFrom l dC dI cI cS a hD h ((h 11 3).toNatClampNeg) hk_h_11_3_toNatClampNeg ee3) (cwV 1 C.2.2.1 gX4_add_X3_takeFrom rfl rfl rfl (by decide +kernel) ⟨Nat.le_of_ble_eq_true rfl, Nat.le_of_ble_eq_true rfl⟩) rfl rfl (Nat.le_of_ble_eq_true rfl) dX4_add_12 ?_
  refine xr_aload_n C dX4_add_15 0 rfl rfl ?_
  refine xr_aload_n C dX4_add_16 1 rfl rfl ?_
  refine xr_get C (ci := 4) (Cn := RX4) (T := TX4) (N := 5) (v := .int (hh4 11 4)) 11 (by decide) rfl rfl 4 (by decide) wnX4 wl40 rfl rfl dX4_add_17 ?_
  refine xr_put C (ci := 3) (Cn := RX3) (T := TX3) (N := 7) (ty := .int) (v := hh4 11 4) ((h 11 3).toNatClampNeg + 15) (kid_s hk_h_11_3_toNatClampNeg) (kcf_snap hk_h_11_3_toNatClampNeg) rfl 6 (by decide) wnX3 wl56 rfl tyX3 tyX3_ok nmX3 rfl (by decide +kernel) rfl rfl (Nat.le_of_ble_eq_true rfl) (kcf_snap hk_h_11_3_toNatClampNeg) dX4_add_20 ?_
  refine xr_iconst C (v := 0) dX4_add_23 (by decide +kernel) ?_
  refine xr_istore_n C [(3, .int 0), (2, .ref (a ((h 11 3).toNatClampNeg + 15))), (0, .ref (a 11)), (1, .ref (a 1))] dX4_add_24 rfl (by decide) rfl ?_
  exact xr_sub C [2, 3, 1, 0] rfl (lab25 1000 (u2 hh4 ((h 11 3).toNatClampNeg + 15) 6 (hh4 11 4)) (h 11 3).toNatClampNeg 0 hk_h_11_3_toNatClampNeg hf)
def f_X4_begin (h : hp)  : Option hp := bV (f_X4_add (u2 (u2 (va_up h 12 (va_cpy (h 3) (h 12) (0 : Int32).toNatClampNeg (0 : Int32).toNatClampNeg (512 : Int32).toNatClampNeg)) 11 3 0) 11 4 0)) (fun hh3 => some hh3)
abbrev rmX4_begin : Room := { frames := 3, cells := 0, slots := 0, locals := 62 }
set_option maxHeartbeats 4000000 in
set_option maxRecDepth 100000 in
theorem c_X4_begin (l : Launch) (dC : Nat → ClassId) (dI : Nat → Nat → Nat) (cI cS : ClassId) (a : Nat → Nat) (hD : xD 95 a) (h : hp)  {h9 : hp} (hf : f_X4_begin h  = some h9) : XMv l yX4_begin wsX4_begin rmX4_begin (dC, dI) vwCl (kty cI cS) 95 a (kcf cI cS a) h [.ref (a 11), .ref (a 1)] h9 := by
  refine xm_v (cc := cX4_begin) (maxL := 2) (ws' := wsX4_begin.tail) (by decide) rfl hD (Nat.le_of_ble_eq_true rfl) [(0, .ref (a 11)), (1, .ref (a 1))] rfl RX4 rfl ?_
  intro p e s m args below meth c C hlk hr
  have wl25 : Cond.fieldLink RX4 25 "RewindBox$Machine" "memory" "[I" ∈ wsX4_begin := by decide +kernel
  have wnX2 : ∀ w ∈ u_ws RX2 TX2 8, w ∈ wsX4_begin := by decide +kernel
  have wl9 : Cond.fieldLink RX4 9 "RewindBox$Snapshots" "firstMemory" "[I" ∈ wsX4_begin := by decide +kernel
  have wnX4 : ∀ w ∈ u_ws RX4 TX4 5, w ∈ wsX4_begin := by decide +kernel
  have wa30 : Cond.methodLink RX4 30 arraycopyName ∈ wsX4_begin := by decide +kernel
  have wan : Cond.native arraycopyName ∈ wsX4_begin := by decide +kernel
  have was : Cond.static arraycopyName ∈ wsX4_begin := by decide +kernel
  have wai : Cond.initialized "java/lang/System" ∈ wsX4_begin := by decide +kernel
  have wl36 : Cond.fieldLink RX4 36 "RewindBox$Snapshots" "count" "I" ∈ wsX4_begin := by decide +kernel
  have wl40 : Cond.fieldLink RX4 40 "RewindBox$Snapshots" "pages" "I" ∈ wsX4_begin := by decide +kernel
  unfold f_X4_begin at hf
  refine xr_aload_n C dX4_begin_0 1 rfl rfl ?_
  refine xr_get C (ci := 2) (Cn := RX2) (T := TX2) (N := 8) (v := .ref (a 3)) 1 (by decide) rfl rfl 1 (by decide) wnX2 wl25 rfl rfl dX4_begin_1 ?_
  refine xr_iconst C (v := 0) dX4_begin_4 (by decide +kernel) ?_
  refine xr_aload_n C dX4_begin_5 0 rfl rfl ?_
  refine xr_get C (ci := 4) (Cn := RX4) (T := TX4) (N := 5) (v := .ref (a 12)) 11 (by decide) rfl rfl 0 (by decide) wnX4 wl9 rfl rfl dX4_begin_6 ?_
  refine xr_iconst C (v := 0) dX4_begin_9 (by decide +kernel) ?_
  refine xr_sipush C (v := 512) dX4_begin_10 (by decide +kernel) ?_
  refine xr_copy C 3 12 (by decide) (by decide) 0 rfl (fun _ => rfl) rfl wa30 wan was wai (by decide) (Nat.le_of_ble_eq_true rfl) (Nat.le_of_ble_eq_true rfl) dX4_begin_13 ?_
  refine xr_aload_n C dX4_begin_16 0 rfl rfl ?_
  refine xr_iconst C (v := 0) dX4_begin_17 (by decide +kernel) ?_
  refine xr_put C (ci := 4) (Cn := RX4) (T := TX4) (N := 5) (ty := .int) (v := 0) 11 (by decide) rfl rfl 3 (by decide) wnX4 wl36 rfl tyX4 tyX4_ok nmX4 rfl (by decide +kernel) rfl rfl (Nat.le_of_ble_eq_true rfl) rfl dX4_begin_18 ?_
  refine xr_aload_n C dX4_begin_21 0 rfl rfl ?_
  refine xr_iconst C (v := 0) dX4_begin_22 (by decide +kernel) ?_
  refine xr_put C (ci := 4) (Cn := RX4) (T := TX4) (N := 5) (ty := .int) (v := 0) 11 (by decide) rfl rfl 4 (by decide) wnX4 wl40 rfl tyX4 tyX4_ok nmX4 rfl (by decide +kernel) rfl rfl (Nat.le_of_ble_eq_true rfl) rfl dX4_begin_23 ?_
  refine xr_aload_n C dX4_begin_26 0 rfl rfl ?_
  refine xr_aload_n C dX4_begin_27 1 rfl rfl ?_
  obtain ⟨hh3, ee2, hf⟩ := bV_some hf
  refine xr_callVv C (Cn := RX4) 11 (by decide) rfl rfl [.ref (a 1)] [] (c_X4_add l dC dI cI cS a hD (u2 (u2 (va_up h 12 (va_cpy (h 3) (h 12) (0 : Int32).toNatClampNeg (0 : Int32).toNatClampNeg (512 : Int32).toNatClampNeg)) 11 3 0) 11 4 0) ee2) (cwV 1 C.2.2.1 gX4_begin_X4_add rfl rfl rfl (by decide +kernel) ⟨Nat.le_of_ble_eq_true rfl, Nat.le_of_ble_eq_true rfl⟩) rfl rfl (Nat.le_of_ble_eq_true rfl) dX4_begin_28 ?_
  cases hf
  exact xr_vret C hlk hr dX4_begin_31
def f_X4_keepFirst (h : hp) (x1 : Int32) : Option hp := gd (¬ ((x1 - 1) < 0 ∨ 40 ≤ (x1 - 1).toNatClampNeg)) (bR (f_X3_pageCount (u2 h 11 3 x1) ((x1 - 1).toNatClampNeg)) (fun rr4 => some (u2 (u2 h 11 3 x1) 11 4 ((h ((x1 - 1).toNatClampNeg + 15) 6) + rr4))))
abbrev rmX4_keepFirst : Room := { frames := 2, cells := 0, slots := 0, locals := 40 }
set_option maxHeartbeats 4000000 in
set_option maxRecDepth 100000 in
theorem c_X4_keepFirst (l : Launch) (dC : Nat → ClassId) (dI : Nat → Nat → Nat) (cI cS : ClassId) (a : Nat → Nat) (hD : xD 95 a) (h : hp) (x1 : Int32) {h9 : hp} (hf : f_X4_keepFirst h x1 = some h9) : XMv l yX4_keepFirst wsX4_keepFirst rmX4_keepFirst (dC, dI) vwCl (kty cI cS) 95 a (kcf cI cS a) h [.ref (a 11), .int x1] h9 := by
  refine xm_v (cc := cX4_keepFirst) (maxL := 3) (ws' := wsX4_keepFirst.tail) (by decide) rfl hD (Nat.le_of_ble_eq_true rfl) [(0, .ref (a 11)), (1, .int x1)] rfl RX4 rfl ?_
  intro p e s m args below meth c C hlk hr
  have wl20 : Cond.fieldLink RX4 20 "RewindBox$Snapshots" "row" "[LRewindBox$Snapshot;" ∈ wsX4_keepFirst := by decide +kernel
  have wnX4 : ∀ w ∈ u_ws RX4 TX4 5, w ∈ wsX4_keepFirst := by decide +kernel
  have wl36 : Cond.fieldLink RX4 36 "RewindBox$Snapshots" "count" "I" ∈ wsX4_keepFirst := by decide +kernel
  have wl56 : Cond.fieldLink RX4 56 "RewindBox$Snapshot" "firstPage" "I" ∈ wsX4_keepFirst := by decide +kernel
  have wnX3 : ∀ w ∈ u_ws RX3 TX3 7, w ∈ wsX4_keepFirst := by decide +kernel
  have wl40 : Cond.fieldLink RX4 40 "RewindBox$Snapshots" "pages" "I" ∈ wsX4_keepFirst := by decide +kernel
  unfold f_X4_keepFirst at hf
  refine xr_aload_n C dX4_keepFirst_0 0 rfl rfl ?_
  refine xr_get C (ci := 4) (Cn := RX4) (T := TX4) (N := 5) (v := .ref (a 14)) 11 (by decide) rfl rfl 2 (by decide) wnX4 wl20 rfl rfl dX4_keepFirst_1 ?_
  refine xr_iload_n C dX4_keepFirst_4 1 rfl rfl ?_
  refine xr_iconst C (v := 1) dX4_keepFirst_5 (by decide +kernel) ?_
  refine xr_isub C dX4_keepFirst_6 ?_
  obtain ⟨gg1, hf⟩ := gd_some hf
  refine xr_aald C (f := fun k => some (a (k + 15))) 14 (by decide) 1 rfl rfl gg1 rfl dX4_keepFirst_7 ?_
  have hk_x1_1_toNatClampNeg := gd_lt gg1
  refine xr_astore_n C [(2, .ref (a ((x1 - 1).toNatClampNeg + 15))), (0, .ref (a 11)), (1, .int x1)] dX4_keepFirst_8 rfl (by decide) rfl ?_
  refine xr_aload_n C dX4_keepFirst_9 1 rfl rfl ?_
  refine xr_iload_n C dX4_keepFirst_10 2 rfl rfl ?_
  refine xr_put C (ci := 4) (Cn := RX4) (T := TX4) (N := 5) (ty := .int) (v := x1) 11 (by decide) rfl rfl 3 (by decide) wnX4 wl36 rfl tyX4 tyX4_ok nmX4 rfl (by decide +kernel) rfl rfl (Nat.le_of_ble_eq_true rfl) rfl dX4_keepFirst_11 ?_
  refine xr_aload_n C dX4_keepFirst_14 1 rfl rfl ?_
  refine xr_aload_n C dX4_keepFirst_15 0 rfl rfl ?_
  refine xr_get C (ci := 3) (Cn := RX3) (T := TX3) (N := 7) (v := .int (h ((x1 - 1).toNatClampNeg + 15) 6)) ((x1 - 1).toNatClampNeg + 15) (kid_s hk_x1_1_toNatClampNeg) (kcf_snap hk_x1_1_toNatClampNeg) rfl 6 (by decide) wnX3 wl56 rfl rfl dX4_keepFirst_16 ?_
  refine xr_aload_n C dX4_keepFirst_19 0 rfl rfl ?_
  obtain ⟨rr4, ee3, hf⟩ := bR_some hf
  refine xr_callVi C (Cn := RX3) ((x1 - 1).toNatClampNeg + 15) (kid_s hk_x1_1_toNatClampNeg) (kcf_snap hk_x1_1_toNatClampNeg) rfl [] [.int (h ((x1 - 1).toNatClampNeg + 15) 6), .ref (a 11)] (c_X3_pageCount l dC dI cI cS a hD (u2 h 11 3 x1) ((x1 - 1).toNatClampNeg) hk_x1_1_toNatClampNeg ee3) (cwV 0 C.2.2.1 gX4_keepFirst_X3_pageCount rfl rfl rfl (by decide +kernel) ⟨Nat.le_of_ble_eq_true rfl, Nat.le_of_ble_eq_true rfl⟩) rfl rfl (Nat.le_of_ble_eq_true rfl) dX4_keepFirst_20 ?_
  refine xr_iadd C dX4_keepFirst_23 ?_
  refine xr_put C (ci := 4) (Cn := RX4) (T := TX4) (N := 5) (ty := .int) (v := ((h ((x1 - 1).toNatClampNeg + 15) 6) + rr4)) 11 (by decide) rfl rfl 4 (by decide) wnX4 wl40 rfl tyX4 tyX4_ok nmX4 rfl (by decide +kernel) rfl rfl (Nat.le_of_ble_eq_true rfl) rfl dX4_keepFirst_24 ?_
  cases hf
  exact xr_vret C hlk hr dX4_keepFirst_27
def f_X4_layPages_8 : Nat → hp → Nat → Int32 → Int32 → Option hp
  | 0, _, _, _, _ => none
  | n + 1, h, k1, x3, x4 => if 32 ≤ x4 then (some h) else (bR (f_X3_hasPage h k1 x4) (fun rr4 => if rr4 = 0 then (f_X4_layPages_8 n h k1 x3 (x4 + 1)) else (gd ((¬ (x3 * 16) < 0 ∧ ¬ (x4 * 16) < 0 ∧ ¬ (16 : Int32) < 0) ∧ (x3 * 16).toNatClampNeg + (16 : Int32).toNatClampNeg ≤ 4800 ∧ (x4 * 16).toNatClampNeg + (16 : Int32).toNatClampNeg ≤ 512) (f_X4_layPages_8 n (va_up h 3 (va_cpy (h 13) (h 3) (x3 * 16).toNatClampNeg (x4 * 16).toNatClampNeg (16 : Int32).toNatClampNeg)) k1 (x3 + 1) (x4 + 1)))))
def f_X4_layPages (h : hp) (k : Nat) : Option hp := gl (h (k + 15) 6) (fun v1 => f_X4_layPages_8 1000 h k v1 0)
abbrev rmX4_layPages : Room := { frames := 1, cells := 0, slots := 0, locals := 21 }
set_option maxHeartbeats 4000000 in
set_option maxRecDepth 100000 in
theorem c_X4_layPages (l : Launch) (dC : Nat → ClassId) (dI : Nat → Nat → Nat) (cI cS : ClassId) (a : Nat → Nat) (hD : xD 95 a) (h : hp) (k : Nat) (hkk : k < 40) {h9 : hp} (hf : f_X4_layPages h k = some h9) : XMv l yX4_layPages wsX4_layPages rmX4_layPages (dC, dI) vwCl (kty cI cS) 95 a (kcf cI cS a) h [.ref (a 11), .ref (a (k + 15)), .ref (a 3)] h9 := by
  refine xm_v (cc := cX4_layPages) (maxL := 5) (ws' := wsX4_layPages.tail) (by decide) rfl hD (Nat.le_of_ble_eq_true rfl) [(0, .ref (a 11)), (1, .ref (a (k + 15))), (2, .ref (a 3))] rfl RX4 rfl ?_
  intro p e s m args below meth c C hlk hr
  have wl56 : Cond.fieldLink RX4 56 "RewindBox$Snapshot" "firstPage" "I" ∈ wsX4_layPages := by decide +kernel
  have wnX3 : ∀ w ∈ u_ws RX3 TX3 7, w ∈ wsX4_layPages := by decide +kernel
  have wl15 : Cond.fieldLink RX4 15 "RewindBox$Snapshots" "pageWords" "[I" ∈ wsX4_layPages := by decide +kernel
  have wnX4 : ∀ w ∈ u_ws RX4 TX4 5, w ∈ wsX4_layPages := by decide +kernel
  have wa30 : Cond.methodLink RX4 30 arraycopyName ∈ wsX4_layPages := by decide +kernel
  have wan : Cond.native arraycopyName ∈ wsX4_layPages := by decide +kernel
  have was : Cond.static arraycopyName ∈ wsX4_layPages := by decide +kernel
  have wai : Cond.initialized "java/lang/System" ∈ wsX4_layPages := by decide +kernel
  have lab8 : ∀ (n : Nat) (h : hp) (k1 : Nat) (x3 : Int32) (x4 : Int32) (hkk1 : k1 < 40), f_X4_layPages_8 n h k1 x3 x4 = some h9 → XJ p l e rmX4_layPages s m args below meth c (dC, dI) vwCl 95 a (kcf cI cS a) 5 (MQ below (XQv (dC, dI) vwCl 95 a (kcf cI cS a) h9) args s 0 0 (xA 95 a)) h [(0, .ref (a 11)), (1, .ref (a (k1 + 15))), (2, .ref (a 3)), (3, .int x3), (4, .int x4)] [] 8 := by
    intro n
    induction n with
    | zero => intro h k1 x3 x4 _ hf; simp [f_X4_layPages_8] at hf
    | succ n ih =>
      intro h k1 x3 x4 hkk1 hf
      rw [f_X4_layPages_8] at hf
      refine xr_iload C dX4_layPages_8 4 rfl ?_
      refine xr_bipush C (v := 32) dX4_layPages_10 (by decide +kernel) ?_
      refine xr_icmp_ge C 52 dX4_layPages_12 (by decide) (fun cd2 => ?_) (fun cd2 => ?_)
      · rw [if_pos cd2] at hf
        cases hf
        exact xr_vret C hlk hr dX4_layPages_52
      · rw [if_neg cd2] at hf
        refine xr_aload_n C dX4_layPages_15 1 rfl rfl ?_
        refine xr_iload C dX4_layPages_16 4 rfl ?_
        obtain ⟨rr4, ee3, hf⟩ := bR_some hf
        refine xr_callVi C (Cn := RX3) (k1 + 15) (kid_s hkk1) (kcf_snap hkk1) rfl [.int x4] [] (c_X3_hasPage l dC dI cI cS a hD h k1 hkk1 x4 ee3) (cwV 1 C.2.2.1 gX4_layPages_X3_hasPage rfl rfl rfl (by decide +kernel) ⟨Nat.le_of_ble_eq_true rfl, Nat.le_of_ble_eq_true rfl⟩) rfl rfl (Nat.le_of_ble_eq_true rfl) dX4_layPages_18 ?_
        refine xr_if_eq C 46 dX4_layPages_21 (by decide) (fun cd5 => ?_) (fun cd5 => ?_)
        · rw [if_pos cd5] at hf
          refine xr_iinc C [(4, .int (x4 + 1)), (0, .ref (a 11)), (1, .ref (a (k1 + 15))), (2, .ref (a 3)), (3, .int x3)] dX4_layPages_46 4 rfl rfl (by decide) rfl ?_
          refine xr_goto C 8 dX4_layPages_49 (by decide) ?_
          exact xr_sub C [1, 2, 3, 4, 0] rfl (ih h k1 x3 (x4 + 1) hkk1 hf)
        · rw [if_neg cd5] at hf
          refine xr_aload_n C dX4_layPages_24 0 rfl rfl ?_
          refine xr_get C (ci := 4) (Cn := RX4) (T := TX4) (N := 5) (v := .ref (a 13)) 11 (by decide) rfl rfl 1 (by decide) wnX4 wl15 rfl rfl dX4_layPages_25 ?_
          refine xr_iload_n C dX4_layPages_28 3 rfl rfl ?_
          refine xr_bipush C (v := 16) dX4_layPages_29 (by decide +kernel) ?_
          refine xr_imul C dX4_layPages_31 ?_
          refine xr_aload_n C dX4_layPages_32 2 rfl rfl ?_
          refine xr_iload C dX4_layPages_33 4 rfl ?_
          refine xr_bipush C (v := 16) dX4_layPages_35 (by decide +kernel) ?_
          refine xr_imul C dX4_layPages_37 ?_
          refine xr_bipush C (v := 16) dX4_layPages_38 (by decide +kernel) ?_
          obtain ⟨gg6, hf⟩ := gd_some hf
          refine xr_copy C 13 3 (by decide) (by decide) 0 rfl (fun _ => rfl) rfl wa30 wan was wai gg6 (Nat.le_of_ble_eq_true rfl) (Nat.le_of_ble_eq_true rfl) dX4_layPages_40 ?_
          refine xr_iinc C [(3, .int (x3 + 1)), (0, .ref (a 11)), (1, .ref (a (k1 + 15))), (2, .ref (a 3)), (4, .int x4)] dX4_layPages_43 3 rfl rfl (by decide) rfl ?_
          refine xr_iinc C [(4, .int (x4 + 1)), (3, .int (x3 + 1)), (0, .ref (a 11)), (1, .ref (a (k1 + 15))), (2, .ref (a 3))] dX4_layPages_46 4 rfl rfl (by decide) rfl ?_
          refine xr_goto C 8 dX4_layPages_49 (by decide) ?_
          exact xr_sub C [2, 3, 4, 1, 0] rfl (ih (va_up h 3 (va_cpy (h 13) (h 3) (x3 * 16).toNatClampNeg (x4 * 16).toNatClampNeg (16 : Int32).toNatClampNeg)) k1 (x3 + 1) (x4 + 1) hkk1 hf)
  unfold f_X4_layPages at hf
  refine xr_aload_n C dX4_layPages_0 1 rfl rfl ?_
  refine xr_get C (ci := 3) (Cn := RX3) (T := TX3) (N := 7) (v := .int (h (k + 15) 6)) (k + 15) (kid_s hkk) (kcf_snap hkk) rfl 6 (by decide) wnX3 wl56 rfl rfl dX4_layPages_1 ?_
  refine xr_topi C (fun v1 ev1 => ?_)
  have hf := gl_at hf v1 ev1
  refine xr_istore_n C [(3, .int v1), (0, .ref (a 11)), (1, .ref (a (k + 15))), (2, .ref (a 3))] dX4_layPages_4 rfl (by decide) rfl ?_
  refine xr_iconst C (v := 0) dX4_layPages_5 (by decide +kernel) ?_
  refine xr_istore C [(4, .int 0), (3, .int v1), (0, .ref (a 11)), (1, .ref (a (k + 15))), (2, .ref (a 3))] dX4_layPages_6 (by decide) rfl ?_
  exact xr_sub C [2, 3, 4, 1, 0] rfl (lab8 1000 h k v1 0 hkk hf)
def f_X4_restore_18 : Nat → hp → Int32 → Int32 → Option hp
  | 0, _, _, _ => none
  | n + 1, h, x1, x3 => if x1 < x3 then (gd (¬ (x1 < 0 ∨ 40 ≤ x1.toNatClampNeg)) (bV (f_X3_giveBackTo h x1.toNatClampNeg) (fun hh6 => some hh6))) else (gd (¬ (x3 < 0 ∨ 40 ≤ x3.toNatClampNeg)) (bV (f_X4_layPages h x3.toNatClampNeg) (fun hh10 => f_X4_restore_18 n hh10 x1 (x3 + 1))))
def f_X4_restore (h : hp) (x1 : Int32) : Option hp := f_X4_restore_18 1000 (va_up h 3 (va_cpy (h 12) (h 3) (0 : Int32).toNatClampNeg (0 : Int32).toNatClampNeg (512 : Int32).toNatClampNeg)) x1 1
abbrev rmX4_restore : Room := { frames := 2, cells := 0, slots := 0, locals := 45 }
set_option maxHeartbeats 4000000 in
set_option maxRecDepth 100000 in
theorem c_X4_restore (l : Launch) (dC : Nat → ClassId) (dI : Nat → Nat → Nat) (cI cS : ClassId) (a : Nat → Nat) (hD : xD 95 a) (h : hp) (x1 : Int32) {h9 : hp} (hf : f_X4_restore h x1 = some h9) : XMv l yX4_restore wsX4_restore rmX4_restore (dC, dI) vwCl (kty cI cS) 95 a (kcf cI cS a) h [.ref (a 11), .int x1, .ref (a 1)] h9 := by
  refine xm_v (cc := cX4_restore) (maxL := 4) (ws' := wsX4_restore.tail) (by decide) rfl hD (Nat.le_of_ble_eq_true rfl) [(0, .ref (a 11)), (1, .int x1), (2, .ref (a 1))] rfl RX4 rfl ?_
  intro p e s m args below meth c C hlk hr
  have wl9 : Cond.fieldLink RX4 9 "RewindBox$Snapshots" "firstMemory" "[I" ∈ wsX4_restore := by decide +kernel
  have wnX4 : ∀ w ∈ u_ws RX4 TX4 5, w ∈ wsX4_restore := by decide +kernel
  have wl25 : Cond.fieldLink RX4 25 "RewindBox$Machine" "memory" "[I" ∈ wsX4_restore := by decide +kernel
  have wnX2 : ∀ w ∈ u_ws RX2 TX2 8, w ∈ wsX4_restore := by decide +kernel
  have wa30 : Cond.methodLink RX4 30 arraycopyName ∈ wsX4_restore := by decide +kernel
  have wan : Cond.native arraycopyName ∈ wsX4_restore := by decide +kernel
  have was : Cond.static arraycopyName ∈ wsX4_restore := by decide +kernel
  have wai : Cond.initialized "java/lang/System" ∈ wsX4_restore := by decide +kernel
  have wl20 : Cond.fieldLink RX4 20 "RewindBox$Snapshots" "row" "[LRewindBox$Snapshot;" ∈ wsX4_restore := by decide +kernel
  have lab18 : ∀ (n : Nat) (h : hp) (x1 : Int32) (x3 : Int32) , f_X4_restore_18 n h x1 x3 = some h9 → XJ p l e rmX4_restore s m args below meth c (dC, dI) vwCl 95 a (kcf cI cS a) 4 (MQ below (XQv (dC, dI) vwCl 95 a (kcf cI cS a) h9) args s 0 0 (xA 95 a)) h [(0, .ref (a 11)), (1, .int x1), (2, .ref (a 1)), (3, .int x3)] [] 18 := by
    intro n
    induction n with
    | zero => intro h x1 x3  hf; simp [f_X4_restore_18] at hf
    | succ n ih =>
      intro h x1 x3  hf
      rw [f_X4_restore_18] at hf
      refine xr_iload_n C dX4_restore_18 3 rfl rfl ?_
      refine xr_iload_n C dX4_restore_19 1 rfl rfl ?_
      refine xr_icmp_gt C 43 dX4_restore_20 (by decide) (fun cd2 => ?_) (fun cd2 => ?_)
      · rw [if_pos cd2] at hf
        refine xr_aload_n C dX4_restore_43 0 rfl rfl ?_
        refine xr_get C (ci := 4) (Cn := RX4) (T := TX4) (N := 5) (v := .ref (a 14)) 11 (by decide) rfl rfl 2 (by decide) wnX4 wl20 rfl rfl dX4_restore_44 ?_
        refine xr_iload_n C dX4_restore_47 1 rfl rfl ?_
        obtain ⟨gg3, hf⟩ := gd_some hf
        refine xr_aald C (f := fun k => some (a (k + 15))) 14 (by decide) 1 rfl rfl gg3 rfl dX4_restore_48 ?_
        have hkx1_toNatClampNeg := gd_lt gg3
        refine xr_aload_n C dX4_restore_49 2 rfl rfl ?_
        obtain ⟨hh6, ee5, hf⟩ := bV_some hf
        refine xr_callVv C (Cn := RX3) (x1.toNatClampNeg + 15) (kid_s hkx1_toNatClampNeg) (kcf_snap hkx1_toNatClampNeg) rfl [.ref (a 1)] [] (c_X3_giveBackTo l dC dI cI cS a hD h x1.toNatClampNeg hkx1_toNatClampNeg ee5) (cwV 1 C.2.2.1 gX4_restore_X3_giveBackTo rfl rfl rfl (by decide +kernel) ⟨Nat.le_of_ble_eq_true rfl, Nat.le_of_ble_eq_true rfl⟩) rfl rfl (Nat.le_of_ble_eq_true rfl) dX4_restore_50 ?_
        cases hf
        exact xr_vret C hlk hr dX4_restore_53
      · rw [if_neg cd2] at hf
        refine xr_aload_n C dX4_restore_23 0 rfl rfl ?_
        refine xr_aload_n C dX4_restore_24 0 rfl rfl ?_
        refine xr_get C (ci := 4) (Cn := RX4) (T := TX4) (N := 5) (v := .ref (a 14)) 11 (by decide) rfl rfl 2 (by decide) wnX4 wl20 rfl rfl dX4_restore_25 ?_
        refine xr_iload_n C dX4_restore_28 3 rfl rfl ?_
        obtain ⟨gg7, hf⟩ := gd_some hf
        refine xr_aald C (f := fun k => some (a (k + 15))) 14 (by decide) 1 rfl rfl gg7 rfl dX4_restore_29 ?_
        have hkx3_toNatClampNeg := gd_lt gg7
        refine xr_aload_n C dX4_restore_30 2 rfl rfl ?_
        refine xr_get C (ci := 2) (Cn := RX2) (T := TX2) (N := 8) (v := .ref (a 3)) 1 (by decide) rfl rfl 1 (by decide) wnX2 wl25 rfl rfl dX4_restore_31 ?_
        obtain ⟨hh10, ee9, hf⟩ := bV_some hf
        refine xr_callVv C (Cn := RX4) 11 (by decide) rfl rfl [.ref (a (x3.toNatClampNeg + 15)), .ref (a 3)] [] (c_X4_layPages l dC dI cI cS a hD h x3.toNatClampNeg hkx3_toNatClampNeg ee9) (cwV 2 C.2.2.1 gX4_restore_X4_layPages rfl rfl rfl (by decide +kernel) ⟨Nat.le_of_ble_eq_true rfl, Nat.le_of_ble_eq_true rfl⟩) rfl rfl (Nat.le_of_ble_eq_true rfl) dX4_restore_34 ?_
        refine xr_iinc C [(3, .int (x3 + 1)), (0, .ref (a 11)), (1, .int x1), (2, .ref (a 1))] dX4_restore_37 3 rfl rfl (by decide) rfl ?_
        refine xr_goto C 18 dX4_restore_40 (by decide) ?_
        exact xr_sub C [1, 2, 3, 0] rfl (ih hh10 x1 (x3 + 1)  hf)
  unfold f_X4_restore at hf
  refine xr_aload_n C dX4_restore_0 0 rfl rfl ?_
  refine xr_get C (ci := 4) (Cn := RX4) (T := TX4) (N := 5) (v := .ref (a 12)) 11 (by decide) rfl rfl 0 (by decide) wnX4 wl9 rfl rfl dX4_restore_1 ?_
  refine xr_iconst C (v := 0) dX4_restore_4 (by decide +kernel) ?_
  refine xr_aload_n C dX4_restore_5 2 rfl rfl ?_
  refine xr_get C (ci := 2) (Cn := RX2) (T := TX2) (N := 8) (v := .ref (a 3)) 1 (by decide) rfl rfl 1 (by decide) wnX2 wl25 rfl rfl dX4_restore_6 ?_
  refine xr_iconst C (v := 0) dX4_restore_9 (by decide +kernel) ?_
  refine xr_sipush C (v := 512) dX4_restore_10 (by decide +kernel) ?_
  refine xr_copy C 12 3 (by decide) (by decide) 0 rfl (fun _ => rfl) rfl wa30 wan was wai (by decide) (Nat.le_of_ble_eq_true rfl) (Nat.le_of_ble_eq_true rfl) dX4_restore_13 ?_
  refine xr_iconst C (v := 1) dX4_restore_16 (by decide +kernel) ?_
  refine xr_istore_n C [(3, .int 1), (0, .ref (a 11)), (1, .int x1), (2, .ref (a 1))] dX4_restore_17 rfl (by decide) rfl ?_
  exact xr_sub C [1, 2, 3, 0] rfl (lab18 1000 (va_up h 3 (va_cpy (h 12) (h 3) (0 : Int32).toNatClampNeg (0 : Int32).toNatClampNeg (512 : Int32).toNatClampNeg)) x1 1  hf)
