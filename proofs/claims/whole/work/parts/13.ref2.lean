def f_X6_move_130 (h : hp) (x3 : Int32) : Option hp := if x3 = 17 then (some (u2 h 0 6 0)) else (some h)
def f_X6_move_113 (h : hp) (x3 : Int32) : Option hp := if x3 = 15 then (f_X6_move_130 (u2 h 0 6 1) x3) else (if x3 = 16 then (f_X6_move_130 (u2 h 0 6 1) x3) else (f_X6_move_130 h x3))
def f_X6_move_98 (h : hp) (x2 : Int32) (x3 : Int32) : Option hp := if x3 = 18 then (f_X6_move_113 (u2 h 0 4 (x2 &&& 511)) x3) else (f_X6_move_113 h x3)
def f_X6_move_84 (h : hp) (x2 : Int32) (x3 : Int32) : Option hp := if x3 = 15 then (f_X6_move_98 (u2 h 0 4 (h 0 5)) x2 x3) else (f_X6_move_98 h x2 x3)
def f_X6_move (h : hp) (x1 : Int32) : Option hp := gd (¬ (((x1 >>> (16 &&& 31)) &&& 7) < 0 ∨ 8 ≤ ((x1 >>> (16 &&& 31)) &&& 7).toNatClampNeg)) (gl (h 3 ((x1 >>> (16 &&& 31)) &&& 7).toNatClampNeg) (fun v2 => gl ((x1.toUInt32 >>> ((24 : Int32).toUInt32 &&& Int32.toUInt32 31)).toInt32) (fun v3 => if v3 = 9 then (f_X6_move_84 (u2 (u2 h 0 4 (((h 0 4) + 1) &&& 511)) 0 4 (x1.toInt16.toInt32 &&& 511)) v2 v3) else (if v3 = 10 then (if v2 = 0 then (f_X6_move_84 (u2 (u2 h 0 4 (((h 0 4) + 1) &&& 511)) 0 4 (x1.toInt16.toInt32 &&& 511)) v2 v3) else (if v3 = 11 then (if 0 ≤ v2 then (f_X6_move_84 (u2 h 0 4 (((h 0 4) + 1) &&& 511)) v2 v3) else (f_X6_move_84 (u2 (u2 h 0 4 (((h 0 4) + 1) &&& 511)) 0 4 (x1.toInt16.toInt32 &&& 511)) v2 v3)) else (f_X6_move_84 (u2 h 0 4 (((h 0 4) + 1) &&& 511)) v2 v3))) else (if v3 = 11 then (if 0 ≤ v2 then (f_X6_move_84 (u2 h 0 4 (((h 0 4) + 1) &&& 511)) v2 v3) else (f_X6_move_84 (u2 (u2 h 0 4 (((h 0 4) + 1) &&& 511)) 0 4 (x1.toInt16.toInt32 &&& 511)) v2 v3)) else (f_X6_move_84 (u2 h 0 4 (((h 0 4) + 1) &&& 511)) v2 v3))))))
abbrev rmX6_move : Room := { frames := 0, cells := 0, slots := 0, locals := 0 }
set_option maxHeartbeats 4000000 in
set_option maxRecDepth 100000 in
theorem c_X6_move (l : Launch) (dC : Nat → ClassId) (dI : Nat → Nat → Nat) (cI cZ : ClassId) (a : Nat → Nat) (hD : xD 11 a) (h : hp) (x1 : Int32) {h9 : hp} (hf : f_X6_move h x1 = some h9) : XMv l yX6_move wsX6_move rmX6_move (dC, dI) vwCl (mty cI cZ) 11 a (mcf cI cZ a) h [.ref (a 0), .int x1] h9 := by
  refine xm_v (cc := cX6_move) (maxL := 6) (ws' := wsX6_move.tail) (by decide) rfl hD (Nat.le_of_ble_eq_true rfl) [(0, .ref (a 0)), (1, .int x1)] rfl RX6 rfl ?_
  intro p e s m args below meth c C hlk hr
  have wl16 : Cond.fieldLink RX6 16 "RewindBoxModel" "registers" "[I" ∈ wsX6_move := by decide +kernel
  have wnX6 : ∀ w ∈ u_ws RX6 TX6 23, w ∈ wsX6_move := by decide +kernel
  have wl53 : Cond.fieldLink RX6 53 "RewindBoxModel" "pc" "I" ∈ wsX6_move := by decide +kernel
  have wl59 : Cond.fieldLink RX6 59 "RewindBoxModel" "open" "Z" ∈ wsX6_move := by decide +kernel
  have wl56 : Cond.fieldLink RX6 56 "RewindBoxModel" "back" "I" ∈ wsX6_move := by decide +kernel
  have lab130 : ∀ (h : hp) (x3 : Int32) , f_X6_move_130 h x3 = some h9 → XJ p l e rmX6_move s m args below meth c (dC, dI) vwCl 11 a (mcf cI cZ a) 6 (MQ below (XQv (dC, dI) vwCl 11 a (mcf cI cZ a) h9) args s 0 0 (xA 11 a)) h [(0, .ref (a 0)), (3, .int x3)] [] 130 := by
    intro h x3  hf
    unfold f_X6_move_130 at hf
    refine xr_iload_n C dX6_move_130 1 rfl rfl ?_
    refine xr_bipush C (v := 17) dX6_move_131 (by decide +kernel) ?_
    refine xr_icmp_ne C 141 dX6_move_133 (by decide) (fun cd8 => ?_) (fun cd8 => ?_)
    · rw [if_neg cd8] at hf
      cases hf
      exact xr_vret C hlk hr dX6_move_141
    · rw [if_pos cd8] at hf
      refine xr_aload_n C dX6_move_136 0 rfl rfl ?_
      refine xr_iconst C (v := 0) dX6_move_137 (by decide +kernel) ?_
      refine xr_put C (ci := 6) (Cn := RX6) (T := TX6) (N := 23) (ty := .boolean) (v := 0) 0 (by decide) rfl rfl 6 (by decide) wnX6 wl59 rfl tyX6 tyX6_ok nmX6 rfl (by decide +kernel) (by decide +kernel) (by decide +kernel) (Nat.le_of_ble_eq_true rfl) rfl dX6_move_138 ?_
      cases hf
      exact xr_vret C hlk hr dX6_move_141
  have lab113 : ∀ (h : hp) (x3 : Int32) , f_X6_move_113 h x3 = some h9 → XJ p l e rmX6_move s m args below meth c (dC, dI) vwCl 11 a (mcf cI cZ a) 6 (MQ below (XQv (dC, dI) vwCl 11 a (mcf cI cZ a) h9) args s 0 0 (xA 11 a)) h [(0, .ref (a 0)), (3, .int x3)] [] 113 := by
    intro h x3  hf
    unfold f_X6_move_113 at hf
    refine xr_iload_n C dX6_move_113 1 rfl rfl ?_
    refine xr_bipush C (v := 15) dX6_move_114 (by decide +kernel) ?_
    refine xr_icmp_eq C 125 dX6_move_116 (by decide) (fun cd7 => ?_) (fun cd7 => ?_)
    · rw [if_pos cd7] at hf
      refine xr_aload_n C dX6_move_125 0 rfl rfl ?_
      refine xr_iconst C (v := 1) dX6_move_126 (by decide +kernel) ?_
      refine xr_put C (ci := 6) (Cn := RX6) (T := TX6) (N := 23) (ty := .boolean) (v := 1) 0 (by decide) rfl rfl 6 (by decide) wnX6 wl59 rfl tyX6 tyX6_ok nmX6 rfl (by decide +kernel) (by decide +kernel) (by decide +kernel) (Nat.le_of_ble_eq_true rfl) rfl dX6_move_127 ?_
      exact xr_sub C [0, 1] rfl (lab130 (u2 h 0 6 1) x3  hf)
    · rw [if_neg cd7] at hf
      refine xr_iload_n C dX6_move_119 1 rfl rfl ?_
      refine xr_bipush C (v := 16) dX6_move_120 (by decide +kernel) ?_
      refine xr_icmp_ne C 130 dX6_move_122 (by decide) (fun cd9 => ?_) (fun cd9 => ?_)
      · rw [if_neg cd9] at hf
        exact xr_sub C [0, 1] rfl (lab130 h x3  hf)
      · rw [if_pos cd9] at hf
        refine xr_aload_n C dX6_move_125 0 rfl rfl ?_
        refine xr_iconst C (v := 1) dX6_move_126 (by decide +kernel) ?_
        refine xr_put C (ci := 6) (Cn := RX6) (T := TX6) (N := 23) (ty := .boolean) (v := 1) 0 (by decide) rfl rfl 6 (by decide) wnX6 wl59 rfl tyX6 tyX6_ok nmX6 rfl (by decide +kernel) (by decide +kernel) (by decide +kernel) (Nat.le_of_ble_eq_true rfl) rfl dX6_move_127 ?_
        exact xr_sub C [0, 1] rfl (lab130 (u2 h 0 6 1) x3  hf)
  have lab98 : ∀ (h : hp) (x2 : Int32) (x3 : Int32) , f_X6_move_98 h x2 x3 = some h9 → XJ p l e rmX6_move s m args below meth c (dC, dI) vwCl 11 a (mcf cI cZ a) 6 (MQ below (XQv (dC, dI) vwCl 11 a (mcf cI cZ a) h9) args s 0 0 (xA 11 a)) h [(0, .ref (a 0)), (2, .int x2), (3, .int x3)] [] 98 := by
    intro h x2 x3  hf
    unfold f_X6_move_98 at hf
    refine xr_iload_n C dX6_move_98 2 rfl rfl ?_
    refine xr_bipush C (v := 18) dX6_move_99 (by decide +kernel) ?_
    refine xr_icmp_ne C 113 dX6_move_101 (by decide) (fun cd6 => ?_) (fun cd6 => ?_)
    · rw [if_neg cd6] at hf
      exact xr_sub C [0, 2] rfl (lab113 h x3  hf)
    · rw [if_pos cd6] at hf
      refine xr_aload_n C dX6_move_104 0 rfl rfl ?_
      refine xr_iload_n C dX6_move_105 1 rfl rfl ?_
      refine xr_sipush C (v := 511) dX6_move_106 (by decide +kernel) ?_
      refine xr_iand C dX6_move_109 ?_
      refine xr_put C (ci := 6) (Cn := RX6) (T := TX6) (N := 23) (ty := .int) (v := (x2 &&& 511)) 0 (by decide) rfl rfl 4 (by decide) wnX6 wl53 rfl tyX6 tyX6_ok nmX6 rfl (by decide +kernel) rfl rfl (Nat.le_of_ble_eq_true rfl) rfl dX6_move_110 ?_
      exact xr_sub C [0, 2] rfl (lab113 (u2 h 0 4 (x2 &&& 511)) x3  hf)
  have lab84 : ∀ (h : hp) (x2 : Int32) (x3 : Int32) , f_X6_move_84 h x2 x3 = some h9 → XJ p l e rmX6_move s m args below meth c (dC, dI) vwCl 11 a (mcf cI cZ a) 6 (MQ below (XQv (dC, dI) vwCl 11 a (mcf cI cZ a) h9) args s 0 0 (xA 11 a)) h [(0, .ref (a 0)), (2, .int x2), (3, .int x3)] [] 84 := by
    intro h x2 x3  hf
    unfold f_X6_move_84 at hf
    refine xr_iload_n C dX6_move_84 2 rfl rfl ?_
    refine xr_bipush C (v := 15) dX6_move_85 (by decide +kernel) ?_
    refine xr_icmp_ne C 98 dX6_move_87 (by decide) (fun cd5 => ?_) (fun cd5 => ?_)
    · rw [if_neg cd5] at hf
      exact xr_sub C [0, 1, 2] rfl (lab98 h x2 x3  hf)
    · rw [if_pos cd5] at hf
      refine xr_aload_n C dX6_move_90 0 rfl rfl ?_
      refine xr_aload_n C dX6_move_91 0 rfl rfl ?_
      refine xr_get C (ci := 6) (Cn := RX6) (T := TX6) (N := 23) (v := .int (h 0 5)) 0 (by decide) rfl rfl 5 (by decide) wnX6 wl56 rfl rfl dX6_move_92 ?_
      refine xr_put C (ci := 6) (Cn := RX6) (T := TX6) (N := 23) (ty := .int) (v := h 0 5) 0 (by decide) rfl rfl 4 (by decide) wnX6 wl53 rfl tyX6 tyX6_ok nmX6 rfl (by decide +kernel) rfl rfl (Nat.le_of_ble_eq_true rfl) rfl dX6_move_95 ?_
      exact xr_sub C [0, 1, 2] rfl (lab98 (u2 h 0 4 (h 0 5)) x2 x3  hf)
  unfold f_X6_move at hf
  refine xr_aload_n C dX6_move_0 0 rfl rfl ?_
  refine xr_get C (ci := 6) (Cn := RX6) (T := TX6) (N := 23) (v := .ref (a 3)) 0 (by decide) rfl rfl 3 (by decide) wnX6 wl16 rfl rfl dX6_move_1 ?_
  refine xr_iload_n C dX6_move_4 1 rfl rfl ?_
  refine xr_bipush C (v := 16) dX6_move_5 (by decide +kernel) ?_
  refine xr_ishr C dX6_move_7 ?_
  refine xr_bipush C (v := 7) dX6_move_8 (by decide +kernel) ?_
  refine xr_iand C dX6_move_10 ?_
  obtain ⟨gg1, hf⟩ := gd_some hf
  refine xr_iald C (v := h 3 ((x1 >>> (16 &&& 31)) &&& 7).toNatClampNeg) 3 (by decide) 0 rfl rfl gg1 rfl dX6_move_11 ?_
  refine xr_topi C (fun v2 ev2 => ?_)
  have hf := gl_at hf v2 ev2
  refine xr_istore_n C [(2, .int v2), (0, .ref (a 0)), (1, .int x1)] dX6_move_12 rfl (by decide) rfl ?_
  refine xr_iload_n C dX6_move_13 2 rfl rfl ?_
  refine xr_bipush C (v := 24) dX6_move_14 (by decide +kernel) ?_
  refine xr_iushr C dX6_move_16 ?_
  refine xr_topi C (fun v3 ev3 => ?_)
  have hf := gl_at hf v3 ev3
  refine xr_istore_n C [(3, .int v3), (2, .int v2), (0, .ref (a 0)), (1, .int x1)] dX6_move_17 rfl (by decide) rfl ?_
  refine xr_iload_n C dX6_move_18 3 rfl rfl ?_
  refine xr_i2s C dX6_move_19 ?_
  refine xr_istore C [(4, .int x1.toInt16.toInt32), (3, .int v3), (2, .int v2), (0, .ref (a 0)), (1, .int x1)] dX6_move_20 (by decide) rfl ?_
  refine xr_aload_n C dX6_move_22 3 rfl rfl ?_
  refine xr_aload_n C dX6_move_23 3 rfl rfl ?_
  refine xr_get C (ci := 6) (Cn := RX6) (T := TX6) (N := 23) (v := .int (h 0 4)) 0 (by decide) rfl rfl 4 (by decide) wnX6 wl53 rfl rfl dX6_move_24 ?_
  refine xr_iconst C (v := 1) dX6_move_27 (by decide +kernel) ?_
  refine xr_iadd C dX6_move_28 ?_
  refine xr_sipush C (v := 511) dX6_move_29 (by decide +kernel) ?_
  refine xr_iand C dX6_move_32 ?_
  refine xr_put C (ci := 6) (Cn := RX6) (T := TX6) (N := 23) (ty := .int) (v := (((h 0 4) + 1) &&& 511)) 0 (by decide) rfl rfl 4 (by decide) wnX6 wl53 rfl tyX6 tyX6_ok nmX6 rfl (by decide +kernel) rfl rfl (Nat.le_of_ble_eq_true rfl) rfl dX6_move_33 ?_
  refine xr_iload_n C dX6_move_36 1 rfl rfl ?_
  refine xr_bipush C (v := 9) dX6_move_37 (by decide +kernel) ?_
  refine xr_icmp_eq C 62 dX6_move_39 (by decide) (fun cd4 => ?_) (fun cd4 => ?_)
  · rw [if_pos cd4] at hf
    refine xr_iconst C (v := 1) dX6_move_62 (by decide +kernel) ?_
    refine xr_goto C 67 dX6_move_63 (by decide) ?_
    refine xr_istore C [(5, .int 1), (4, .int x1.toInt16.toInt32), (3, .int v3), (2, .int v2), (0, .ref (a 0)), (1, .int x1)] dX6_move_67 (by decide) rfl ?_
    refine xr_iload C dX6_move_69 0 rfl ?_
    refine xr_if_eq C 84 dX6_move_71 (by decide) (fun c9 => absurd c9 (by decide)) (fun c9 => ?_)
    refine xr_aload_n C dX6_move_74 4 rfl rfl ?_
    refine xr_iload C dX6_move_75 1 rfl ?_
    refine xr_sipush C (v := 511) dX6_move_77 (by decide +kernel) ?_
    refine xr_iand C dX6_move_80 ?_
    refine xr_put C (ci := 6) (Cn := RX6) (T := TX6) (N := 23) (ty := .int) (v := (x1.toInt16.toInt32 &&& 511)) 0 (by decide) rfl rfl 4 (by decide) wnX6 wl53 rfl tyX6 tyX6_ok nmX6 rfl (by decide +kernel) rfl rfl (Nat.le_of_ble_eq_true rfl) rfl dX6_move_81 ?_
    exact xr_sub C [4, 3, 2] rfl (lab84 (u2 (u2 h 0 4 (((h 0 4) + 1) &&& 511)) 0 4 (x1.toInt16.toInt32 &&& 511)) v2 v3  hf)
  · rw [if_neg cd4] at hf
    refine xr_iload_n C dX6_move_42 1 rfl rfl ?_
    refine xr_bipush C (v := 10) dX6_move_43 (by decide +kernel) ?_
    refine xr_icmp_ne C 52 dX6_move_45 (by decide) (fun cd10 => ?_) (fun cd10 => ?_)
    · rw [if_neg cd10] at hf
      refine xr_iload_n C dX6_move_52 1 rfl rfl ?_
      refine xr_bipush C (v := 11) dX6_move_53 (by decide +kernel) ?_
      refine xr_icmp_ne C 66 dX6_move_55 (by decide) (fun cd11 => ?_) (fun cd11 => ?_)
      · rw [if_neg cd11] at hf
        refine xr_iconst C (v := 0) dX6_move_66 (by decide +kernel) ?_
        refine xr_istore C [(5, .int 0), (4, .int x1.toInt16.toInt32), (3, .int v3), (2, .int v2), (0, .ref (a 0)), (1, .int x1)] dX6_move_67 (by decide) rfl ?_
        refine xr_iload C dX6_move_69 0 rfl ?_
        refine xr_if_eq C 84 dX6_move_71 (by decide) (fun c9 => ?_) (fun c9 => absurd c9 (by decide))
        exact xr_sub C [4, 3, 2] rfl (lab84 (u2 h 0 4 (((h 0 4) + 1) &&& 511)) v2 v3  hf)
      · rw [if_pos cd11] at hf
        refine xr_iload_n C dX6_move_58 2 rfl rfl ?_
        refine xr_if_ge C 66 dX6_move_59 (by decide) (fun cd12 => ?_) (fun cd12 => ?_)
        · rw [if_pos cd12] at hf
          refine xr_iconst C (v := 0) dX6_move_66 (by decide +kernel) ?_
          refine xr_istore C [(5, .int 0), (4, .int x1.toInt16.toInt32), (3, .int v3), (2, .int v2), (0, .ref (a 0)), (1, .int x1)] dX6_move_67 (by decide) rfl ?_
          refine xr_iload C dX6_move_69 0 rfl ?_
          refine xr_if_eq C 84 dX6_move_71 (by decide) (fun c9 => ?_) (fun c9 => absurd c9 (by decide))
          exact xr_sub C [4, 3, 2] rfl (lab84 (u2 h 0 4 (((h 0 4) + 1) &&& 511)) v2 v3  hf)
        · rw [if_neg cd12] at hf
          refine xr_iconst C (v := 1) dX6_move_62 (by decide +kernel) ?_
          refine xr_goto C 67 dX6_move_63 (by decide) ?_
          refine xr_istore C [(5, .int 1), (4, .int x1.toInt16.toInt32), (3, .int v3), (2, .int v2), (0, .ref (a 0)), (1, .int x1)] dX6_move_67 (by decide) rfl ?_
          refine xr_iload C dX6_move_69 0 rfl ?_
          refine xr_if_eq C 84 dX6_move_71 (by decide) (fun c9 => absurd c9 (by decide)) (fun c9 => ?_)
          refine xr_aload_n C dX6_move_74 4 rfl rfl ?_
          refine xr_iload C dX6_move_75 1 rfl ?_
          refine xr_sipush C (v := 511) dX6_move_77 (by decide +kernel) ?_
          refine xr_iand C dX6_move_80 ?_
          refine xr_put C (ci := 6) (Cn := RX6) (T := TX6) (N := 23) (ty := .int) (v := (x1.toInt16.toInt32 &&& 511)) 0 (by decide) rfl rfl 4 (by decide) wnX6 wl53 rfl tyX6 tyX6_ok nmX6 rfl (by decide +kernel) rfl rfl (Nat.le_of_ble_eq_true rfl) rfl dX6_move_81 ?_
          exact xr_sub C [4, 3, 2] rfl (lab84 (u2 (u2 h 0 4 (((h 0 4) + 1) &&& 511)) 0 4 (x1.toInt16.toInt32 &&& 511)) v2 v3  hf)
    · rw [if_pos cd10] at hf
      refine xr_iload_n C dX6_move_48 2 rfl rfl ?_
      refine xr_if_eq C 62 dX6_move_49 (by decide) (fun cd13 => ?_) (fun cd13 => ?_)
      · rw [if_pos cd13] at hf
        refine xr_iconst C (v := 1) dX6_move_62 (by decide +kernel) ?_
        refine xr_goto C 67 dX6_move_63 (by decide) ?_
        refine xr_istore C [(5, .int 1), (4, .int x1.toInt16.toInt32), (3, .int v3), (2, .int v2), (0, .ref (a 0)), (1, .int x1)] dX6_move_67 (by decide) rfl ?_
        refine xr_iload C dX6_move_69 0 rfl ?_
        refine xr_if_eq C 84 dX6_move_71 (by decide) (fun c9 => absurd c9 (by decide)) (fun c9 => ?_)
        refine xr_aload_n C dX6_move_74 4 rfl rfl ?_
        refine xr_iload C dX6_move_75 1 rfl ?_
        refine xr_sipush C (v := 511) dX6_move_77 (by decide +kernel) ?_
        refine xr_iand C dX6_move_80 ?_
        refine xr_put C (ci := 6) (Cn := RX6) (T := TX6) (N := 23) (ty := .int) (v := (x1.toInt16.toInt32 &&& 511)) 0 (by decide) rfl rfl 4 (by decide) wnX6 wl53 rfl tyX6 tyX6_ok nmX6 rfl (by decide +kernel) rfl rfl (Nat.le_of_ble_eq_true rfl) rfl dX6_move_81 ?_
        exact xr_sub C [4, 3, 2] rfl (lab84 (u2 (u2 h 0 4 (((h 0 4) + 1) &&& 511)) 0 4 (x1.toInt16.toInt32 &&& 511)) v2 v3  hf)
      · rw [if_neg cd13] at hf
        refine xr_iload_n C dX6_move_52 1 rfl rfl ?_
        refine xr_bipush C (v := 11) dX6_move_53 (by decide +kernel) ?_
        refine xr_icmp_ne C 66 dX6_move_55 (by decide) (fun cd14 => ?_) (fun cd14 => ?_)
        · rw [if_neg cd14] at hf
          refine xr_iconst C (v := 0) dX6_move_66 (by decide +kernel) ?_
          refine xr_istore C [(5, .int 0), (4, .int x1.toInt16.toInt32), (3, .int v3), (2, .int v2), (0, .ref (a 0)), (1, .int x1)] dX6_move_67 (by decide) rfl ?_
          refine xr_iload C dX6_move_69 0 rfl ?_
          refine xr_if_eq C 84 dX6_move_71 (by decide) (fun c9 => ?_) (fun c9 => absurd c9 (by decide))
          exact xr_sub C [4, 3, 2] rfl (lab84 (u2 h 0 4 (((h 0 4) + 1) &&& 511)) v2 v3  hf)
        · rw [if_pos cd14] at hf
          refine xr_iload_n C dX6_move_58 2 rfl rfl ?_
          refine xr_if_ge C 66 dX6_move_59 (by decide) (fun cd15 => ?_) (fun cd15 => ?_)
          · rw [if_pos cd15] at hf
            refine xr_iconst C (v := 0) dX6_move_66 (by decide +kernel) ?_
            refine xr_istore C [(5, .int 0), (4, .int x1.toInt16.toInt32), (3, .int v3), (2, .int v2), (0, .ref (a 0)), (1, .int x1)] dX6_move_67 (by decide) rfl ?_
            refine xr_iload C dX6_move_69 0 rfl ?_
            refine xr_if_eq C 84 dX6_move_71 (by decide) (fun c9 => ?_) (fun c9 => absurd c9 (by decide))
            exact xr_sub C [4, 3, 2] rfl (lab84 (u2 h 0 4 (((h 0 4) + 1) &&& 511)) v2 v3  hf)
          · rw [if_neg cd15] at hf
            refine xr_iconst C (v := 1) dX6_move_62 (by decide +kernel) ?_
            refine xr_goto C 67 dX6_move_63 (by decide) ?_
            refine xr_istore C [(5, .int 1), (4, .int x1.toInt16.toInt32), (3, .int v3), (2, .int v2), (0, .ref (a 0)), (1, .int x1)] dX6_move_67 (by decide) rfl ?_
            refine xr_iload C dX6_move_69 0 rfl ?_
            refine xr_if_eq C 84 dX6_move_71 (by decide) (fun c9 => absurd c9 (by decide)) (fun c9 => ?_)
            refine xr_aload_n C dX6_move_74 4 rfl rfl ?_
            refine xr_iload C dX6_move_75 1 rfl ?_
            refine xr_sipush C (v := 511) dX6_move_77 (by decide +kernel) ?_
            refine xr_iand C dX6_move_80 ?_
            refine xr_put C (ci := 6) (Cn := RX6) (T := TX6) (N := 23) (ty := .int) (v := (x1.toInt16.toInt32 &&& 511)) 0 (by decide) rfl rfl 4 (by decide) wnX6 wl53 rfl tyX6 tyX6_ok nmX6 rfl (by decide +kernel) rfl rfl (Nat.le_of_ble_eq_true rfl) rfl dX6_move_81 ?_
            exact xr_sub C [4, 3, 2] rfl (lab84 (u2 (u2 h 0 4 (((h 0 4) + 1) &&& 511)) 0 4 (x1.toInt16.toInt32 &&& 511)) v2 v3  hf)
def f_X6_instruct (h : hp) (x1 : Int32) (x2 : Int32) : Option hp := bV (f_X6_move h x1) (fun hh2 => bV (f_X6_work hh2 x1 x2) (fun hh4 => some hh4))
abbrev rmX6_instruct : Room := { frames := 2, cells := 0, slots := 0, locals := 47 }
set_option maxHeartbeats 4000000 in
set_option maxRecDepth 100000 in
theorem c_X6_instruct (l : Launch) (dC : Nat → ClassId) (dI : Nat → Nat → Nat) (cI cZ : ClassId) (a : Nat → Nat) (hD : xD 11 a) (h : hp) (x1 : Int32) (x2 : Int32) {h9 : hp} (hf : f_X6_instruct h x1 x2 = some h9) : XMv l yX6_instruct wsX6_instruct rmX6_instruct (dC, dI) vwCl (mty cI cZ) 11 a (mcf cI cZ a) h [.ref (a 0), .int x1, .int x2] h9 := by
  refine xm_v (cc := cX6_instruct) (maxL := 3) (ws' := wsX6_instruct.tail) (by decide) rfl hD (Nat.le_of_ble_eq_true rfl) [(0, .ref (a 0)), (1, .int x1), (2, .int x2)] rfl RX6 rfl ?_
  intro p e s m args below meth c C hlk hr
  unfold f_X6_instruct at hf
  refine xr_aload_n C dX6_instruct_0 0 rfl rfl ?_
  refine xr_iload_n C dX6_instruct_1 1 rfl rfl ?_
  obtain ⟨hh2, ee1, hf⟩ := bV_some hf
  refine xr_callVv C (Cn := RX6) 0 (by decide) rfl rfl [.int x1] [] (c_X6_move l dC dI cI cZ a hD h x1 ee1) (cwV 1 C.2.2.1 gX6_instruct_X6_move rfl rfl rfl (by decide +kernel) ⟨Nat.le_of_ble_eq_true rfl, Nat.le_of_ble_eq_true rfl⟩) rfl rfl (Nat.le_of_ble_eq_true rfl) dX6_instruct_2 ?_
  refine xr_aload_n C dX6_instruct_5 0 rfl rfl ?_
  refine xr_iload_n C dX6_instruct_6 1 rfl rfl ?_
  refine xr_iload_n C dX6_instruct_7 2 rfl rfl ?_
  obtain ⟨hh4, ee3, hf⟩ := bV_some hf
  refine xr_callVv C (Cn := RX6) 0 (by decide) rfl rfl [.int x1, .int x2] [] (c_X6_work l dC dI cI cZ a hD hh2 x1 x2 ee3) (cwV 2 C.2.2.1 gX6_instruct_X6_work rfl rfl rfl (by decide +kernel) ⟨Nat.le_of_ble_eq_true rfl, Nat.le_of_ble_eq_true rfl⟩) rfl rfl (Nat.le_of_ble_eq_true rfl) dX6_instruct_8 ?_
  cases hf
  exact xr_vret C hlk hr dX6_instruct_11
def f_X6_pass_25 : Nat → hp → Int32 → Option hp
  | 0, _, _ => none
  | n + 1, h, x1 => if 32 ≤ x1 then (some h) else (gd (¬ (x1 < 0 ∨ 32 ≤ x1.toNatClampNeg)) (f_X6_pass_25 n (u2 h 9 x1.toNatClampNeg 0) (x1 + 1)))
def f_X6_pass (h : hp)  : Option hp := gd (¬ (h 0 0) = 0) (if (((h 0 10) + 1) - ((h 0 10) + 1) / (h 0 0) * (h 0 0)) = 0 then (f_X6_pass_25 1000 (u2 h 0 10 ((h 0 10) + 1)) 0) else (some (u2 h 0 10 ((h 0 10) + 1))))
abbrev rmX6_pass : Room := { frames := 0, cells := 0, slots := 0, locals := 0 }
set_option maxHeartbeats 4000000 in
set_option maxRecDepth 100000 in
theorem c_X6_pass (l : Launch) (dC : Nat → ClassId) (dI : Nat → Nat → Nat) (cI cZ : ClassId) (a : Nat → Nat) (hD : xD 11 a) (h : hp)  {h9 : hp} (hf : f_X6_pass h  = some h9) : XMv l yX6_pass wsX6_pass rmX6_pass (dC, dI) vwCl (mty cI cZ) 11 a (mcf cI cZ a) h [.ref (a 0)] h9 := by
  refine xm_v (cc := cX6_pass) (maxL := 2) (ws' := wsX6_pass.tail) (by decide) rfl hD (Nat.le_of_ble_eq_true rfl) [(0, .ref (a 0))] rfl RX6 rfl ?_
  intro p e s m args below meth c C hlk hr
  have wl65 : Cond.fieldLink RX6 65 "RewindBoxModel" "position" "I" ∈ wsX6_pass := by decide +kernel
  have wnX6 : ∀ w ∈ u_ws RX6 TX6 23, w ∈ wsX6_pass := by decide +kernel
  have wl41 : Cond.fieldLink RX6 41 "RewindBoxModel" "interval" "I" ∈ wsX6_pass := by decide +kernel
  have wl34 : Cond.fieldLink RX6 34 "RewindBoxModel" "written" "[Z" ∈ wsX6_pass := by decide +kernel
  have lab25 : ∀ (n : Nat) (h : hp) (x1 : Int32) , f_X6_pass_25 n h x1 = some h9 → XJ p l e rmX6_pass s m args below meth c (dC, dI) vwCl 11 a (mcf cI cZ a) 2 (MQ below (XQv (dC, dI) vwCl 11 a (mcf cI cZ a) h9) args s 0 0 (xA 11 a)) h [(0, .ref (a 0)), (1, .int x1)] [] 25 := by
    intro n
    induction n with
    | zero => intro h x1  hf; simp [f_X6_pass_25] at hf
    | succ n ih =>
      intro h x1  hf
      rw [f_X6_pass_25] at hf
      refine xr_iload_n C dX6_pass_25 1 rfl rfl ?_
      refine xr_bipush C (v := 32) dX6_pass_26 (by decide +kernel) ?_
      refine xr_icmp_ge C 44 dX6_pass_28 (by decide) (fun cd3 => ?_) (fun cd3 => ?_)
      · rw [if_pos cd3] at hf
        cases hf
        exact xr_vret C hlk hr dX6_pass_44
      · rw [if_neg cd3] at hf
        refine xr_aload_n C dX6_pass_31 0 rfl rfl ?_
        refine xr_get C (ci := 6) (Cn := RX6) (T := TX6) (N := 23) (v := .ref (a 9)) 0 (by decide) rfl rfl 19 (by decide) wnX6 wl34 rfl rfl dX6_pass_32 ?_
        refine xr_iload_n C dX6_pass_35 1 rfl rfl ?_
        refine xr_iconst C (v := 0) dX6_pass_36 (by decide +kernel) ?_
        obtain ⟨gg4, hf⟩ := gd_some hf
        refine xr_zast C 9 (by decide) 1 (fun _ => rfl) rfl (by decide +kernel) gg4 dX6_pass_37 ?_
        refine xr_iinc C [(1, .int (x1 + 1)), (0, .ref (a 0))] dX6_pass_38 1 rfl rfl (by decide) rfl ?_
        refine xr_goto C 25 dX6_pass_41 (by decide) ?_
        exact xr_sub C [1, 0] rfl (ih (u2 h 9 x1.toNatClampNeg 0) (x1 + 1)  hf)
  unfold f_X6_pass at hf
  refine xr_aload_n C dX6_pass_0 0 rfl rfl ?_
  refine xr_dup C dX6_pass_1 rfl ?_
  refine xr_get C (ci := 6) (Cn := RX6) (T := TX6) (N := 23) (v := .int (h 0 10)) 0 (by decide) rfl rfl 10 (by decide) wnX6 wl65 rfl rfl dX6_pass_2 ?_
  refine xr_iconst C (v := 1) dX6_pass_5 (by decide +kernel) ?_
  refine xr_iadd C dX6_pass_6 ?_
  refine xr_put C (ci := 6) (Cn := RX6) (T := TX6) (N := 23) (ty := .int) (v := ((h 0 10) + 1)) 0 (by decide) rfl rfl 10 (by decide) wnX6 wl65 rfl tyX6 tyX6_ok nmX6 rfl (by decide +kernel) rfl rfl (Nat.le_of_ble_eq_true rfl) rfl dX6_pass_7 ?_
  refine xr_aload_n C dX6_pass_10 0 rfl rfl ?_
  refine xr_get C (ci := 6) (Cn := RX6) (T := TX6) (N := 23) (v := .int ((h 0 10) + 1)) 0 (by decide) rfl rfl 10 (by decide) wnX6 wl65 rfl rfl dX6_pass_11 ?_
  refine xr_aload_n C dX6_pass_14 0 rfl rfl ?_
  refine xr_get C (ci := 6) (Cn := RX6) (T := TX6) (N := 23) (v := .int (h 0 0)) 0 (by decide) rfl rfl 0 (by decide) wnX6 wl41 rfl rfl dX6_pass_15 ?_
  obtain ⟨gg1, hf⟩ := gd_some hf
  refine xr_irem C dX6_pass_18 gg1 ?_
  refine xr_if_eq C 23 dX6_pass_19 (by decide) (fun cd2 => ?_) (fun cd2 => ?_)
  · rw [if_pos cd2] at hf
    refine xr_iconst C (v := 0) dX6_pass_23 (by decide +kernel) ?_
    refine xr_istore_n C [(1, .int 0), (0, .ref (a 0))] dX6_pass_24 rfl (by decide) rfl ?_
    exact xr_sub C [1, 0] rfl (lab25 1000 (u2 h 0 10 ((h 0 10) + 1)) 0  hf)
  · rw [if_neg cd2] at hf
    cases hf
    exact xr_vret C hlk hr dX6_pass_22
def f_X6_again (h : hp)  : Option hp := if h 0 15 ≤ h 0 16 then (gd (¬ ((h 0 4) < 0 ∨ 512 ≤ (h 0 4).toNatClampNeg)) (bV (f_X6_instruct h (h 2 (h 0 4).toNatClampNeg) 0) (fun hh4 => bV (f_X6_pass hh4) (fun hh6 => some hh6)))) else (gd (¬ ((h 0 16) < 0 ∨ 300 ≤ (h 0 16).toNatClampNeg)) (if h 5 (h 0 16).toNatClampNeg = h 0 10 then (gd (¬ ((h 0 16) < 0 ∨ 300 ≤ (h 0 16).toNatClampNeg)) (gl (h 7 (h 0 16).toNatClampNeg) (fun v15 => gd (¬ ((h 0 16) < 0 ∨ 300 ≤ (h 0 16).toNatClampNeg)) (if h 6 (h 0 16).toNatClampNeg = 2 then (bV (f_X6_interrupt h) (fun hh24 => bV (f_X6_pass (u2 hh24 0 16 ((hh24 0 16) + 1))) (fun hh26 => some hh26))) else (gd (¬ ((h 0 4) < 0 ∨ 512 ≤ (h 0 4).toNatClampNeg)) (bV (f_X6_instruct h (h 2 (h 0 4).toNatClampNeg) v15) (fun hh20 => bV (f_X6_pass (u2 hh20 0 16 ((hh20 0 16) + 1))) (fun hh22 => some hh22)))))))) else (gd (¬ ((h 0 4) < 0 ∨ 512 ≤ (h 0 4).toNatClampNeg)) (bV (f_X6_instruct h (h 2 (h 0 4).toNatClampNeg) 0) (fun hh11 => bV (f_X6_pass hh11) (fun hh13 => some hh13))))))
abbrev rmX6_again : Room := { frames := 3, cells := 0, slots := 0, locals := 69 }
set_option maxHeartbeats 4000000 in
set_option maxRecDepth 100000 in
theorem c_X6_again (l : Launch) (dC : Nat → ClassId) (dI : Nat → Nat → Nat) (cI cZ : ClassId) (a : Nat → Nat) (hD : xD 11 a) (h : hp)  {h9 : hp} (hf : f_X6_again h  = some h9) : XMv l yX6_again wsX6_again rmX6_again (dC, dI) vwCl (mty cI cZ) 11 a (mcf cI cZ a) h [.ref (a 0)] h9 := by
  refine xm_v (cc := cX6_again) (maxL := 3) (ws' := wsX6_again.tail) (by decide) rfl hD (Nat.le_of_ble_eq_true rfl) [(0, .ref (a 0))] rfl RX6 rfl ?_
  intro p e s m args below meth c C hlk hr
  have wl68 : Cond.fieldLink RX6 68 "RewindBoxModel" "passed" "I" ∈ wsX6_again := by decide +kernel
  have wnX6 : ∀ w ∈ u_ws RX6 TX6 23, w ∈ wsX6_again := by decide +kernel
  have wl74 : Cond.fieldLink RX6 74 "RewindBoxModel" "entries" "I" ∈ wsX6_again := by decide +kernel
  have wl13 : Cond.fieldLink RX6 13 "RewindBoxModel" "memory" "[I" ∈ wsX6_again := by decide +kernel
  have wl53 : Cond.fieldLink RX6 53 "RewindBoxModel" "pc" "I" ∈ wsX6_again := by decide +kernel
  have wl22 : Cond.fieldLink RX6 22 "RewindBoxModel" "logAt" "[I" ∈ wsX6_again := by decide +kernel
  have wl65 : Cond.fieldLink RX6 65 "RewindBoxModel" "position" "I" ∈ wsX6_again := by decide +kernel
  have wl28 : Cond.fieldLink RX6 28 "RewindBoxModel" "logInput" "[I" ∈ wsX6_again := by decide +kernel
  have wl25 : Cond.fieldLink RX6 25 "RewindBoxModel" "logKind" "[I" ∈ wsX6_again := by decide +kernel
  unfold f_X6_again at hf
  refine xr_aload_n C dX6_again_0 0 rfl rfl ?_
  refine xr_get C (ci := 6) (Cn := RX6) (T := TX6) (N := 23) (v := .int (h 0 16)) 0 (by decide) rfl rfl 16 (by decide) wnX6 wl68 rfl rfl dX6_again_1 ?_
  refine xr_aload_n C dX6_again_4 0 rfl rfl ?_
  refine xr_get C (ci := 6) (Cn := RX6) (T := TX6) (N := 23) (v := .int (h 0 15)) 0 (by decide) rfl rfl 15 (by decide) wnX6 wl74 rfl rfl dX6_again_5 ?_
  refine xr_icmp_ge C 31 dX6_again_8 (by decide) (fun cd1 => ?_) (fun cd1 => ?_)
  · rw [if_pos cd1] at hf
    refine xr_iconst C (v := 0) dX6_again_31 (by decide +kernel) ?_
    refine xr_istore_n C [(1, .int 0), (0, .ref (a 0))] dX6_again_32 rfl (by decide) rfl ?_
    refine xr_iload_n C dX6_again_33 0 rfl rfl ?_
    refine xr_if_eq C 49 dX6_again_34 (by decide) (fun c9 => ?_) (fun c9 => absurd c9 (by decide))
    refine xr_iconst C (v := 0) dX6_again_49 (by decide +kernel) ?_
    refine xr_istore_n C [(2, .int 0), (1, .int 0), (0, .ref (a 0))] dX6_again_50 rfl (by decide) rfl ?_
    refine xr_iload_n C dX6_again_51 1 rfl rfl ?_
    refine xr_if_eq C 75 dX6_again_52 (by decide) (fun c9 => ?_) (fun c9 => absurd c9 (by decide))
    refine xr_aload_n C dX6_again_75 2 rfl rfl ?_
    refine xr_aload_n C dX6_again_76 2 rfl rfl ?_
    refine xr_get C (ci := 6) (Cn := RX6) (T := TX6) (N := 23) (v := .ref (a 2)) 0 (by decide) rfl rfl 2 (by decide) wnX6 wl13 rfl rfl dX6_again_77 ?_
    refine xr_aload_n C dX6_again_80 2 rfl rfl ?_
    refine xr_get C (ci := 6) (Cn := RX6) (T := TX6) (N := 23) (v := .int (h 0 4)) 0 (by decide) rfl rfl 4 (by decide) wnX6 wl53 rfl rfl dX6_again_81 ?_
    obtain ⟨gg2, hf⟩ := gd_some hf
    refine xr_iald C (v := h 2 (h 0 4).toNatClampNeg) 2 (by decide) 0 rfl rfl gg2 rfl dX6_again_84 ?_
    refine xr_iload_n C dX6_again_85 0 rfl rfl ?_
    obtain ⟨hh4, ee3, hf⟩ := bV_some hf
    refine xr_callVv C (Cn := RX6) 0 (by decide) rfl rfl [.int (h 2 (h 0 4).toNatClampNeg), .int 0] [] (c_X6_instruct l dC dI cI cZ a hD h (h 2 (h 0 4).toNatClampNeg) 0 ee3) (cwV 2 C.2.2.1 gX6_again_X6_instruct rfl rfl rfl (by decide +kernel) ⟨Nat.le_of_ble_eq_true rfl, Nat.le_of_ble_eq_true rfl⟩) rfl rfl (Nat.le_of_ble_eq_true rfl) dX6_again_86 ?_
    refine xr_iload_n C dX6_again_89 1 rfl rfl ?_
    refine xr_if_eq C 103 dX6_again_90 (by decide) (fun c9 => ?_) (fun c9 => absurd c9 (by decide))
    refine xr_aload_n C dX6_again_103 2 rfl rfl ?_
    obtain ⟨hh6, ee5, hf⟩ := bV_some hf
    refine xr_callVv C (Cn := RX6) 0 (by decide) rfl rfl [] [] (c_X6_pass l dC dI cI cZ a hD hh4 ee5) (cwV 0 C.2.2.1 gX6_again_X6_pass rfl rfl rfl (by decide +kernel) ⟨Nat.le_of_ble_eq_true rfl, Nat.le_of_ble_eq_true rfl⟩) rfl rfl (Nat.le_of_ble_eq_true rfl) dX6_again_104 ?_
    cases hf
    exact xr_vret C hlk hr dX6_again_107
  · rw [if_neg cd1] at hf
    refine xr_aload_n C dX6_again_11 0 rfl rfl ?_
    refine xr_get C (ci := 6) (Cn := RX6) (T := TX6) (N := 23) (v := .ref (a 5)) 0 (by decide) rfl rfl 12 (by decide) wnX6 wl22 rfl rfl dX6_again_12 ?_
    refine xr_aload_n C dX6_again_15 0 rfl rfl ?_
    refine xr_get C (ci := 6) (Cn := RX6) (T := TX6) (N := 23) (v := .int (h 0 16)) 0 (by decide) rfl rfl 16 (by decide) wnX6 wl68 rfl rfl dX6_again_16 ?_
    obtain ⟨gg7, hf⟩ := gd_some hf
    refine xr_iald C (v := h 5 (h 0 16).toNatClampNeg) 5 (by decide) 0 rfl rfl gg7 rfl dX6_again_19 ?_
    refine xr_aload_n C dX6_again_20 0 rfl rfl ?_
    refine xr_get C (ci := 6) (Cn := RX6) (T := TX6) (N := 23) (v := .int (h 0 10)) 0 (by decide) rfl rfl 10 (by decide) wnX6 wl65 rfl rfl dX6_again_21 ?_
    refine xr_icmp_ne C 31 dX6_again_24 (by decide) (fun cd8 => ?_) (fun cd8 => ?_)
    · rw [if_neg cd8] at hf
      refine xr_iconst C (v := 0) dX6_again_31 (by decide +kernel) ?_
      refine xr_istore_n C [(1, .int 0), (0, .ref (a 0))] dX6_again_32 rfl (by decide) rfl ?_
      refine xr_iload_n C dX6_again_33 0 rfl rfl ?_
      refine xr_if_eq C 49 dX6_again_34 (by decide) (fun c9 => ?_) (fun c9 => absurd c9 (by decide))
      refine xr_iconst C (v := 0) dX6_again_49 (by decide +kernel) ?_
      refine xr_istore_n C [(2, .int 0), (1, .int 0), (0, .ref (a 0))] dX6_again_50 rfl (by decide) rfl ?_
      refine xr_iload_n C dX6_again_51 1 rfl rfl ?_
      refine xr_if_eq C 75 dX6_again_52 (by decide) (fun c9 => ?_) (fun c9 => absurd c9 (by decide))
      refine xr_aload_n C dX6_again_75 2 rfl rfl ?_
      refine xr_aload_n C dX6_again_76 2 rfl rfl ?_
      refine xr_get C (ci := 6) (Cn := RX6) (T := TX6) (N := 23) (v := .ref (a 2)) 0 (by decide) rfl rfl 2 (by decide) wnX6 wl13 rfl rfl dX6_again_77 ?_
      refine xr_aload_n C dX6_again_80 2 rfl rfl ?_
      refine xr_get C (ci := 6) (Cn := RX6) (T := TX6) (N := 23) (v := .int (h 0 4)) 0 (by decide) rfl rfl 4 (by decide) wnX6 wl53 rfl rfl dX6_again_81 ?_
      obtain ⟨gg9, hf⟩ := gd_some hf
      refine xr_iald C (v := h 2 (h 0 4).toNatClampNeg) 2 (by decide) 0 rfl rfl gg9 rfl dX6_again_84 ?_
      refine xr_iload_n C dX6_again_85 0 rfl rfl ?_
      obtain ⟨hh11, ee10, hf⟩ := bV_some hf
      refine xr_callVv C (Cn := RX6) 0 (by decide) rfl rfl [.int (h 2 (h 0 4).toNatClampNeg), .int 0] [] (c_X6_instruct l dC dI cI cZ a hD h (h 2 (h 0 4).toNatClampNeg) 0 ee10) (cwV 2 C.2.2.1 gX6_again_X6_instruct rfl rfl rfl (by decide +kernel) ⟨Nat.le_of_ble_eq_true rfl, Nat.le_of_ble_eq_true rfl⟩) rfl rfl (Nat.le_of_ble_eq_true rfl) dX6_again_86 ?_
      refine xr_iload_n C dX6_again_89 1 rfl rfl ?_
      refine xr_if_eq C 103 dX6_again_90 (by decide) (fun c9 => ?_) (fun c9 => absurd c9 (by decide))
      refine xr_aload_n C dX6_again_103 2 rfl rfl ?_
      obtain ⟨hh13, ee12, hf⟩ := bV_some hf
      refine xr_callVv C (Cn := RX6) 0 (by decide) rfl rfl [] [] (c_X6_pass l dC dI cI cZ a hD hh11 ee12) (cwV 0 C.2.2.1 gX6_again_X6_pass rfl rfl rfl (by decide +kernel) ⟨Nat.le_of_ble_eq_true rfl, Nat.le_of_ble_eq_true rfl⟩) rfl rfl (Nat.le_of_ble_eq_true rfl) dX6_again_104 ?_
      cases hf
      exact xr_vret C hlk hr dX6_again_107
    · rw [if_pos cd8] at hf
      refine xr_iconst C (v := 1) dX6_again_27 (by decide +kernel) ?_
      refine xr_goto C 32 dX6_again_28 (by decide) ?_
      refine xr_istore_n C [(1, .int 1), (0, .ref (a 0))] dX6_again_32 rfl (by decide) rfl ?_
      refine xr_iload_n C dX6_again_33 0 rfl rfl ?_
      refine xr_if_eq C 49 dX6_again_34 (by decide) (fun c9 => absurd c9 (by decide)) (fun c9 => ?_)
      refine xr_aload_n C dX6_again_37 1 rfl rfl ?_
      refine xr_get C (ci := 6) (Cn := RX6) (T := TX6) (N := 23) (v := .ref (a 7)) 0 (by decide) rfl rfl 14 (by decide) wnX6 wl28 rfl rfl dX6_again_38 ?_
      refine xr_aload_n C dX6_again_41 1 rfl rfl ?_
      refine xr_get C (ci := 6) (Cn := RX6) (T := TX6) (N := 23) (v := .int (h 0 16)) 0 (by decide) rfl rfl 16 (by decide) wnX6 wl68 rfl rfl dX6_again_42 ?_
      obtain ⟨gg14, hf⟩ := gd_some hf
      refine xr_iald C (v := h 7 (h 0 16).toNatClampNeg) 7 (by decide) 0 rfl rfl gg14 rfl dX6_again_45 ?_
      refine xr_goto C 50 dX6_again_46 (by decide) ?_
      refine xr_topi C (fun v15 ev15 => ?_)
      have hf := gl_at hf v15 ev15
      refine xr_istore_n C [(2, .int v15), (1, .int 1), (0, .ref (a 0))] dX6_again_50 rfl (by decide) rfl ?_
      refine xr_iload_n C dX6_again_51 1 rfl rfl ?_
      refine xr_if_eq C 75 dX6_again_52 (by decide) (fun c9 => absurd c9 (by decide)) (fun c9 => ?_)
      refine xr_aload_n C dX6_again_55 2 rfl rfl ?_
      refine xr_get C (ci := 6) (Cn := RX6) (T := TX6) (N := 23) (v := .ref (a 6)) 0 (by decide) rfl rfl 13 (by decide) wnX6 wl25 rfl rfl dX6_again_56 ?_
      refine xr_aload_n C dX6_again_59 2 rfl rfl ?_
      refine xr_get C (ci := 6) (Cn := RX6) (T := TX6) (N := 23) (v := .int (h 0 16)) 0 (by decide) rfl rfl 16 (by decide) wnX6 wl68 rfl rfl dX6_again_60 ?_
      obtain ⟨gg16, hf⟩ := gd_some hf
      refine xr_iald C (v := h 6 (h 0 16).toNatClampNeg) 6 (by decide) 0 rfl rfl gg16 rfl dX6_again_63 ?_
      refine xr_iconst C (v := 2) dX6_again_64 (by decide +kernel) ?_
      refine xr_icmp_ne C 75 dX6_again_65 (by decide) (fun cd17 => ?_) (fun cd17 => ?_)
      · rw [if_neg cd17] at hf
        refine xr_aload_n C dX6_again_75 2 rfl rfl ?_
        refine xr_aload_n C dX6_again_76 2 rfl rfl ?_
        refine xr_get C (ci := 6) (Cn := RX6) (T := TX6) (N := 23) (v := .ref (a 2)) 0 (by decide) rfl rfl 2 (by decide) wnX6 wl13 rfl rfl dX6_again_77 ?_
        refine xr_aload_n C dX6_again_80 2 rfl rfl ?_
        refine xr_get C (ci := 6) (Cn := RX6) (T := TX6) (N := 23) (v := .int (h 0 4)) 0 (by decide) rfl rfl 4 (by decide) wnX6 wl53 rfl rfl dX6_again_81 ?_
        obtain ⟨gg18, hf⟩ := gd_some hf
        refine xr_iald C (v := h 2 (h 0 4).toNatClampNeg) 2 (by decide) 0 rfl rfl gg18 rfl dX6_again_84 ?_
        refine xr_iload_n C dX6_again_85 0 rfl rfl ?_
        obtain ⟨hh20, ee19, hf⟩ := bV_some hf
        refine xr_callVv C (Cn := RX6) 0 (by decide) rfl rfl [.int (h 2 (h 0 4).toNatClampNeg), .int v15] [] (c_X6_instruct l dC dI cI cZ a hD h (h 2 (h 0 4).toNatClampNeg) v15 ee19) (cwV 2 C.2.2.1 gX6_again_X6_instruct rfl rfl rfl (by decide +kernel) ⟨Nat.le_of_ble_eq_true rfl, Nat.le_of_ble_eq_true rfl⟩) rfl rfl (Nat.le_of_ble_eq_true rfl) dX6_again_86 ?_
        refine xr_iload_n C dX6_again_89 1 rfl rfl ?_
        refine xr_if_eq C 103 dX6_again_90 (by decide) (fun c9 => absurd c9 (by decide)) (fun c9 => ?_)
        refine xr_aload_n C dX6_again_93 2 rfl rfl ?_
        refine xr_dup C dX6_again_94 rfl ?_
        refine xr_get C (ci := 6) (Cn := RX6) (T := TX6) (N := 23) (v := .int (hh20 0 16)) 0 (by decide) rfl rfl 16 (by decide) wnX6 wl68 rfl rfl dX6_again_95 ?_
        refine xr_iconst C (v := 1) dX6_again_98 (by decide +kernel) ?_
        refine xr_iadd C dX6_again_99 ?_
        refine xr_put C (ci := 6) (Cn := RX6) (T := TX6) (N := 23) (ty := .int) (v := ((hh20 0 16) + 1)) 0 (by decide) rfl rfl 16 (by decide) wnX6 wl68 rfl tyX6 tyX6_ok nmX6 rfl (by decide +kernel) rfl rfl (Nat.le_of_ble_eq_true rfl) rfl dX6_again_100 ?_
        refine xr_aload_n C dX6_again_103 2 rfl rfl ?_
        obtain ⟨hh22, ee21, hf⟩ := bV_some hf
        refine xr_callVv C (Cn := RX6) 0 (by decide) rfl rfl [] [] (c_X6_pass l dC dI cI cZ a hD (u2 hh20 0 16 ((hh20 0 16) + 1)) ee21) (cwV 0 C.2.2.1 gX6_again_X6_pass rfl rfl rfl (by decide +kernel) ⟨Nat.le_of_ble_eq_true rfl, Nat.le_of_ble_eq_true rfl⟩) rfl rfl (Nat.le_of_ble_eq_true rfl) dX6_again_104 ?_
        cases hf
        exact xr_vret C hlk hr dX6_again_107
      · rw [if_pos cd17] at hf
        refine xr_aload_n C dX6_again_68 2 rfl rfl ?_
        obtain ⟨hh24, ee23, hf⟩ := bV_some hf
        refine xr_callVv C (Cn := RX6) 0 (by decide) rfl rfl [] [] (c_X6_interrupt l dC dI cI cZ a hD h ee23) (cwV 0 C.2.2.1 gX6_again_X6_interrupt rfl rfl rfl (by decide +kernel) ⟨Nat.le_of_ble_eq_true rfl, Nat.le_of_ble_eq_true rfl⟩) rfl rfl (Nat.le_of_ble_eq_true rfl) dX6_again_69 ?_
        refine xr_goto C 89 dX6_again_72 (by decide) ?_
        refine xr_iload_n C dX6_again_89 1 rfl rfl ?_
        refine xr_if_eq C 103 dX6_again_90 (by decide) (fun c9 => absurd c9 (by decide)) (fun c9 => ?_)
        refine xr_aload_n C dX6_again_93 2 rfl rfl ?_
        refine xr_dup C dX6_again_94 rfl ?_
        refine xr_get C (ci := 6) (Cn := RX6) (T := TX6) (N := 23) (v := .int (hh24 0 16)) 0 (by decide) rfl rfl 16 (by decide) wnX6 wl68 rfl rfl dX6_again_95 ?_
        refine xr_iconst C (v := 1) dX6_again_98 (by decide +kernel) ?_
        refine xr_iadd C dX6_again_99 ?_
        refine xr_put C (ci := 6) (Cn := RX6) (T := TX6) (N := 23) (ty := .int) (v := ((hh24 0 16) + 1)) 0 (by decide) rfl rfl 16 (by decide) wnX6 wl68 rfl tyX6 tyX6_ok nmX6 rfl (by decide +kernel) rfl rfl (Nat.le_of_ble_eq_true rfl) rfl dX6_again_100 ?_
        refine xr_aload_n C dX6_again_103 2 rfl rfl ?_
        obtain ⟨hh26, ee25, hf⟩ := bV_some hf
        refine xr_callVv C (Cn := RX6) 0 (by decide) rfl rfl [] [] (c_X6_pass l dC dI cI cZ a hD (u2 hh24 0 16 ((hh24 0 16) + 1)) ee25) (cwV 0 C.2.2.1 gX6_again_X6_pass rfl rfl rfl (by decide +kernel) ⟨Nat.le_of_ble_eq_true rfl, Nat.le_of_ble_eq_true rfl⟩) rfl rfl (Nat.le_of_ble_eq_true rfl) dX6_again_104 ?_
        cases hf
        exact xr_vret C hlk hr dX6_again_107
def f_X6_writtenPages_4 : Nat → hp → Int32 → Int32 → Option Int32
  | 0, _, _, _ => none
  | n + 1, h0, x1, x2 => if 32 ≤ x2 then (some x1) else (gd (¬ (x2 < 0 ∨ 32 ≤ x2.toNatClampNeg)) (if h0 9 x2.toNatClampNeg = 0 then (gl (x1 + 0) (fun v4 => f_X6_writtenPages_4 n h0 v4 (x2 + 1))) else (gl (x1 + 1) (fun v5 => f_X6_writtenPages_4 n h0 v5 (x2 + 1)))))
def f_X6_writtenPages (h0 : hp)  : Option Int32 := f_X6_writtenPages_4 1000 h0 0 0
abbrev rmX6_writtenPages : Room := { frames := 0, cells := 0, slots := 0, locals := 0 }
set_option maxHeartbeats 4000000 in
set_option maxRecDepth 100000 in
theorem c_X6_writtenPages (l : Launch) (dC : Nat → ClassId) (dI : Nat → Nat → Nat) (cI cZ : ClassId) (a : Nat → Nat) (hD : xD 11 a) (h0 : hp)  {r9 : Int32} (hf : f_X6_writtenPages h0  = some r9) : XMi l yX6_writtenPages wsX6_writtenPages rmX6_writtenPages (dC, dI) vwCl (mty cI cZ) 11 a (mcf cI cZ a) h0 [.ref (a 0)] r9 h0 := by
  refine xm_i (cc := cX6_writtenPages) (maxL := 3) (ws' := wsX6_writtenPages.tail) (by decide) rfl hD (Nat.le_of_ble_eq_true rfl) [(0, .ref (a 0))] rfl RX6 rfl ?_
  intro p e s m args below meth c C hlk hr
  have wl34 : Cond.fieldLink RX6 34 "RewindBoxModel" "written" "[Z" ∈ wsX6_writtenPages := by decide +kernel
  have wnX6 : ∀ w ∈ u_ws RX6 TX6 23, w ∈ wsX6_writtenPages := by decide +kernel
  have lab4 : ∀ (n : Nat) (x1 : Int32) (x2 : Int32) , f_X6_writtenPages_4 n h0 x1 x2 = some r9 → XJ p l e rmX6_writtenPages s m args below meth c (dC, dI) vwCl 11 a (mcf cI cZ a) 3 (MQ below (XQi (dC, dI) vwCl 11 a (mcf cI cZ a) r9 h0) args s 0 0 (xA 11 a)) h0 [(0, .ref (a 0)), (1, .int x1), (2, .int x2)] [] 4 := by
    intro n
    induction n with
    | zero => intro x1 x2  hf; simp [f_X6_writtenPages_4] at hf
    | succ n ih =>
      intro x1 x2  hf
      rw [f_X6_writtenPages_4] at hf
      refine xr_iload_n C dX6_writtenPages_4 2 rfl rfl ?_
      refine xr_bipush C (v := 32) dX6_writtenPages_5 (by decide +kernel) ?_
      refine xr_icmp_ge C 33 dX6_writtenPages_7 (by decide) (fun cd1 => ?_) (fun cd1 => ?_)
      · rw [if_pos cd1] at hf
        refine xr_iload_n C dX6_writtenPages_33 1 rfl rfl ?_
        cases hf
        exact xr_iret C hlk hr dX6_writtenPages_34
      · rw [if_neg cd1] at hf
        refine xr_iload_n C dX6_writtenPages_10 1 rfl rfl ?_
        refine xr_aload_n C dX6_writtenPages_11 0 rfl rfl ?_
        refine xr_get C (ci := 6) (Cn := RX6) (T := TX6) (N := 23) (v := .ref (a 9)) 0 (by decide) rfl rfl 19 (by decide) wnX6 wl34 rfl rfl dX6_writtenPages_12 ?_
        refine xr_iload_n C dX6_writtenPages_15 2 rfl rfl ?_
        obtain ⟨gg2, hf⟩ := gd_some hf
        refine xr_zald C (v := h0 9 x2.toNatClampNeg) 9 (by decide) 1 rfl rfl gg2 rfl dX6_writtenPages_16 ?_
        refine xr_if_eq C 24 dX6_writtenPages_17 (by decide) (fun cd3 => ?_) (fun cd3 => ?_)
        · rw [if_pos cd3] at hf
          refine xr_iconst C (v := 0) dX6_writtenPages_24 (by decide +kernel) ?_
          refine xr_iadd C dX6_writtenPages_25 ?_
          refine xr_topi C (fun v4 ev4 => ?_)
          have hf := gl_at hf v4 ev4
          refine xr_istore_n C [(1, .int v4), (0, .ref (a 0)), (2, .int x2)] dX6_writtenPages_26 rfl (by decide) rfl ?_
          refine xr_iinc C [(2, .int (x2 + 1)), (1, .int v4), (0, .ref (a 0))] dX6_writtenPages_27 2 rfl rfl (by decide) rfl ?_
          refine xr_goto C 4 dX6_writtenPages_30 (by decide) ?_
          exact xr_sub C [2, 1, 0] rfl (ih  v4 (x2 + 1)  hf)
        · rw [if_neg cd3] at hf
          refine xr_iconst C (v := 1) dX6_writtenPages_20 (by decide +kernel) ?_
          refine xr_goto C 25 dX6_writtenPages_21 (by decide) ?_
          refine xr_iadd C dX6_writtenPages_25 ?_
          refine xr_topi C (fun v5 ev5 => ?_)
          have hf := gl_at hf v5 ev5
          refine xr_istore_n C [(1, .int v5), (0, .ref (a 0)), (2, .int x2)] dX6_writtenPages_26 rfl (by decide) rfl ?_
          refine xr_iinc C [(2, .int (x2 + 1)), (1, .int v5), (0, .ref (a 0))] dX6_writtenPages_27 2 rfl rfl (by decide) rfl ?_
          refine xr_goto C 4 dX6_writtenPages_30 (by decide) ?_
          exact xr_sub C [2, 1, 0] rfl (ih  v5 (x2 + 1)  hf)
  unfold f_X6_writtenPages at hf
  refine xr_iconst C (v := 0) dX6_writtenPages_0 (by decide +kernel) ?_
  refine xr_istore_n C [(1, .int 0), (0, .ref (a 0))] dX6_writtenPages_1 rfl (by decide) rfl ?_
  refine xr_iconst C (v := 0) dX6_writtenPages_2 (by decide +kernel) ?_
  refine xr_istore_n C [(2, .int 0), (1, .int 0), (0, .ref (a 0))] dX6_writtenPages_3 rfl (by decide) rfl ?_
  exact xr_sub C [2, 1, 0] rfl (lab4 1000  0 0  hf)
def f_X6_allPages_4 : Nat → hp → Int32 → Int32 → Option Int32
  | 0, _, _, _ => none
  | n + 1, h0, x1, x2 => if h0 0 17 ≤ x2 then (some x1) else (gd (¬ (x2 < 0 ∨ 40 ≤ x2.toNatClampNeg)) (gl (x1 + (h0 8 x2.toNatClampNeg)) (fun v3 => f_X6_allPages_4 n h0 v3 (x2 + 1))))
def f_X6_allPages (h0 : hp)  : Option Int32 := f_X6_allPages_4 1000 h0 0 0
abbrev rmX6_allPages : Room := { frames := 0, cells := 0, slots := 0, locals := 0 }
set_option maxHeartbeats 4000000 in
set_option maxRecDepth 100000 in
theorem c_X6_allPages (l : Launch) (dC : Nat → ClassId) (dI : Nat → Nat → Nat) (cI cZ : ClassId) (a : Nat → Nat) (hD : xD 11 a) (h0 : hp)  {r9 : Int32} (hf : f_X6_allPages h0  = some r9) : XMi l yX6_allPages wsX6_allPages rmX6_allPages (dC, dI) vwCl (mty cI cZ) 11 a (mcf cI cZ a) h0 [.ref (a 0)] r9 h0 := by
  refine xm_i (cc := cX6_allPages) (maxL := 3) (ws' := wsX6_allPages.tail) (by decide) rfl hD (Nat.le_of_ble_eq_true rfl) [(0, .ref (a 0))] rfl RX6 rfl ?_
  intro p e s m args below meth c C hlk hr
  have wl77 : Cond.fieldLink RX6 77 "RewindBoxModel" "snapshots" "I" ∈ wsX6_allPages := by decide +kernel
  have wnX6 : ∀ w ∈ u_ws RX6 TX6 23, w ∈ wsX6_allPages := by decide +kernel
  have wl31 : Cond.fieldLink RX6 31 "RewindBoxModel" "pagesOf" "[I" ∈ wsX6_allPages := by decide +kernel
  have lab4 : ∀ (n : Nat) (x1 : Int32) (x2 : Int32) , f_X6_allPages_4 n h0 x1 x2 = some r9 → XJ p l e rmX6_allPages s m args below meth c (dC, dI) vwCl 11 a (mcf cI cZ a) 3 (MQ below (XQi (dC, dI) vwCl 11 a (mcf cI cZ a) r9 h0) args s 0 0 (xA 11 a)) h0 [(0, .ref (a 0)), (1, .int x1), (2, .int x2)] [] 4 := by
    intro n
    induction n with
    | zero => intro x1 x2  hf; simp [f_X6_allPages_4] at hf
    | succ n ih =>
      intro x1 x2  hf
      rw [f_X6_allPages_4] at hf
      refine xr_iload_n C dX6_allPages_4 2 rfl rfl ?_
      refine xr_aload_n C dX6_allPages_5 0 rfl rfl ?_
      refine xr_get C (ci := 6) (Cn := RX6) (T := TX6) (N := 23) (v := .int (h0 0 17)) 0 (by decide) rfl rfl 17 (by decide) wnX6 wl77 rfl rfl dX6_allPages_6 ?_
      refine xr_icmp_ge C 27 dX6_allPages_9 (by decide) (fun cd1 => ?_) (fun cd1 => ?_)
      · rw [if_pos cd1] at hf
        refine xr_iload_n C dX6_allPages_27 1 rfl rfl ?_
        cases hf
        exact xr_iret C hlk hr dX6_allPages_28
      · rw [if_neg cd1] at hf
        refine xr_iload_n C dX6_allPages_12 1 rfl rfl ?_
        refine xr_aload_n C dX6_allPages_13 0 rfl rfl ?_
        refine xr_get C (ci := 6) (Cn := RX6) (T := TX6) (N := 23) (v := .ref (a 8)) 0 (by decide) rfl rfl 18 (by decide) wnX6 wl31 rfl rfl dX6_allPages_14 ?_
        refine xr_iload_n C dX6_allPages_17 2 rfl rfl ?_
        obtain ⟨gg2, hf⟩ := gd_some hf
        refine xr_iald C (v := h0 8 x2.toNatClampNeg) 8 (by decide) 0 rfl rfl gg2 rfl dX6_allPages_18 ?_
        refine xr_iadd C dX6_allPages_19 ?_
        refine xr_topi C (fun v3 ev3 => ?_)
        have hf := gl_at hf v3 ev3
        refine xr_istore_n C [(1, .int v3), (0, .ref (a 0)), (2, .int x2)] dX6_allPages_20 rfl (by decide) rfl ?_
        refine xr_iinc C [(2, .int (x2 + 1)), (1, .int v3), (0, .ref (a 0))] dX6_allPages_21 2 rfl rfl (by decide) rfl ?_
        refine xr_goto C 4 dX6_allPages_24 (by decide) ?_
        exact xr_sub C [2, 1, 0] rfl (ih  v3 (x2 + 1)  hf)
  unfold f_X6_allPages at hf
  refine xr_iconst C (v := 0) dX6_allPages_0 (by decide +kernel) ?_
  refine xr_istore_n C [(1, .int 0), (0, .ref (a 0))] dX6_allPages_1 rfl (by decide) rfl ?_
  refine xr_iconst C (v := 0) dX6_allPages_2 (by decide +kernel) ?_
  refine xr_istore_n C [(2, .int 0), (1, .int 0), (0, .ref (a 0))] dX6_allPages_3 rfl (by decide) rfl ?_
  exact xr_sub C [2, 1, 0] rfl (lab4 1000  0 0  hf)
def f_X6_isFull_67 (h0 : hp) (x4 : Int32) : Option Int32 := if h0 0 17 = 40 then (some 1) else (bR (f_X6_allPages h0) (fun rr9 => if (rr9 + x4) ≤ 300 then (some 0) else (some 1)))
def f_X6_isFull (h0 : hp) (x1 : Int32) (x2 : Int32) : Option Int32 := gd (¬ (h0 0 0) = 0) (if (((h0 0 11) + 1) - ((h0 0 11) + 1) / (h0 0 0) * (h0 0 0)) = 0 then (if x1 = 0 then (if ((x2.toUInt32 >>> ((24 : Int32).toUInt32 &&& Int32.toUInt32 31)).toInt32) = 8 then (bR (f_X6_writtenPages h0) (fun rr16 => bR (f_X6_meant h0 x2) (fun rr18 => gd (¬ ((rr18 / 16) < 0 ∨ 32 ≤ (rr18 / 16).toNatClampNeg)) (if h0 9 (rr18 / 16).toNatClampNeg = 0 then (gl (rr16 + 1) (fun v22 => f_X6_isFull_67 h0 v22)) else (gl (rr16 + 0) (fun v21 => f_X6_isFull_67 h0 v21)))))) else (bR (f_X6_writtenPages h0) (fun rr13 => gl (rr13 + 0) (fun v14 => f_X6_isFull_67 h0 v14)))) else (bR (f_X6_writtenPages h0) (fun rr5 => gl (rr5 + 0) (fun v6 => f_X6_isFull_67 h0 v6)))) else (some 0))
abbrev rmX6_isFull : Room := { frames := 1, cells := 0, slots := 0, locals := 22 }
set_option maxHeartbeats 4000000 in
set_option maxRecDepth 100000 in
theorem c_X6_isFull (l : Launch) (dC : Nat → ClassId) (dI : Nat → Nat → Nat) (cI cZ : ClassId) (a : Nat → Nat) (hD : xD 11 a) (h0 : hp) (x1 : Int32) (x2 : Int32) {r9 : Int32} (hf : f_X6_isFull h0 x1 x2 = some r9) : XMi l yX6_isFull wsX6_isFull rmX6_isFull (dC, dI) vwCl (mty cI cZ) 11 a (mcf cI cZ a) h0 [.ref (a 0), .int x1, .int x2] r9 h0 := by
  refine xm_i (cc := cX6_isFull) (maxL := 5) (ws' := wsX6_isFull.tail) (by decide) rfl hD (Nat.le_of_ble_eq_true rfl) [(0, .ref (a 0)), (1, .int x1), (2, .int x2)] rfl RX6 rfl ?_
  intro p e s m args below meth c C hlk hr
  have wl71 : Cond.fieldLink RX6 71 "RewindBoxModel" "end" "I" ∈ wsX6_isFull := by decide +kernel
  have wnX6 : ∀ w ∈ u_ws RX6 TX6 23, w ∈ wsX6_isFull := by decide +kernel
  have wl41 : Cond.fieldLink RX6 41 "RewindBoxModel" "interval" "I" ∈ wsX6_isFull := by decide +kernel
  have wl77 : Cond.fieldLink RX6 77 "RewindBoxModel" "snapshots" "I" ∈ wsX6_isFull := by decide +kernel
  have wl34 : Cond.fieldLink RX6 34 "RewindBoxModel" "written" "[Z" ∈ wsX6_isFull := by decide +kernel
  have lab67 : ∀ (x4 : Int32) , f_X6_isFull_67 h0 x4 = some r9 → XJ p l e rmX6_isFull s m args below meth c (dC, dI) vwCl 11 a (mcf cI cZ a) 5 (MQ below (XQi (dC, dI) vwCl 11 a (mcf cI cZ a) r9 h0) args s 0 0 (xA 11 a)) h0 [(0, .ref (a 0)), (4, .int x4)] [] 67 := by
    intro x4  hf
    unfold f_X6_isFull_67 at hf
    refine xr_aload_n C dX6_isFull_67 0 rfl rfl ?_
    refine xr_get C (ci := 6) (Cn := RX6) (T := TX6) (N := 23) (v := .int (h0 0 17)) 0 (by decide) rfl rfl 17 (by decide) wnX6 wl77 rfl rfl dX6_isFull_68 ?_
    refine xr_bipush C (v := 40) dX6_isFull_71 (by decide +kernel) ?_
    refine xr_icmp_eq C 89 dX6_isFull_73 (by decide) (fun cd7 => ?_) (fun cd7 => ?_)
    · rw [if_pos cd7] at hf
      refine xr_iconst C (v := 1) dX6_isFull_89 (by decide +kernel) ?_
      refine xr_goto C 94 dX6_isFull_90 (by decide) ?_
      cases hf
      exact xr_zret C hlk hr (by decide +kernel) dX6_isFull_94
    · rw [if_neg cd7] at hf
      refine xr_aload_n C dX6_isFull_76 0 rfl rfl ?_
      obtain ⟨rr9, ee8, hf⟩ := bR_some hf
      refine xr_callVi C (Cn := RX6) 0 (by decide) rfl rfl [] [] (c_X6_allPages l dC dI cI cZ a hD h0 ee8) (cwV 0 C.2.2.1 gX6_isFull_X6_allPages rfl rfl rfl (by decide +kernel) ⟨Nat.le_of_ble_eq_true rfl, Nat.le_of_ble_eq_true rfl⟩) rfl rfl (Nat.le_of_ble_eq_true rfl) dX6_isFull_77 ?_
      refine xr_iload C dX6_isFull_80 1 rfl ?_
      refine xr_iadd C dX6_isFull_82 ?_
      refine xr_sipush C (v := 300) dX6_isFull_83 (by decide +kernel) ?_
      refine xr_icmp_le C 93 dX6_isFull_86 (by decide) (fun cd10 => ?_) (fun cd10 => ?_)
      · rw [if_pos cd10] at hf
        refine xr_iconst C (v := 0) dX6_isFull_93 (by decide +kernel) ?_
        cases hf
        exact xr_zret C hlk hr (by decide +kernel) dX6_isFull_94
      · rw [if_neg cd10] at hf
        refine xr_iconst C (v := 1) dX6_isFull_89 (by decide +kernel) ?_
        refine xr_goto C 94 dX6_isFull_90 (by decide) ?_
        cases hf
        exact xr_zret C hlk hr (by decide +kernel) dX6_isFull_94
  unfold f_X6_isFull at hf
  refine xr_aload_n C dX6_isFull_0 0 rfl rfl ?_
  refine xr_get C (ci := 6) (Cn := RX6) (T := TX6) (N := 23) (v := .int (h0 0 11)) 0 (by decide) rfl rfl 11 (by decide) wnX6 wl71 rfl rfl dX6_isFull_1 ?_
  refine xr_iconst C (v := 1) dX6_isFull_4 (by decide +kernel) ?_
  refine xr_iadd C dX6_isFull_5 ?_
  refine xr_aload_n C dX6_isFull_6 0 rfl rfl ?_
  refine xr_get C (ci := 6) (Cn := RX6) (T := TX6) (N := 23) (v := .int (h0 0 0)) 0 (by decide) rfl rfl 0 (by decide) wnX6 wl41 rfl rfl dX6_isFull_7 ?_
  obtain ⟨gg1, hf⟩ := gd_some hf
  refine xr_irem C dX6_isFull_10 gg1 ?_
  refine xr_if_eq C 16 dX6_isFull_11 (by decide) (fun cd2 => ?_) (fun cd2 => ?_)
  · rw [if_pos cd2] at hf
    refine xr_iload_n C dX6_isFull_16 1 rfl rfl ?_
    refine xr_if_ne C 33 dX6_isFull_17 (by decide) (fun cd3 => ?_) (fun cd3 => ?_)
    · rw [if_neg cd3] at hf
      refine xr_iconst C (v := 0) dX6_isFull_33 (by decide +kernel) ?_
      refine xr_istore_n C [(3, .int 0), (0, .ref (a 0)), (1, .int x1), (2, .int x2)] dX6_isFull_34 rfl (by decide) rfl ?_
      refine xr_aload_n C dX6_isFull_35 1 rfl rfl ?_
      obtain ⟨rr5, ee4, hf⟩ := bR_some hf
      refine xr_callVi C (Cn := RX6) 0 (by decide) rfl rfl [] [] (c_X6_writtenPages l dC dI cI cZ a hD h0 ee4) (cwV 0 C.2.2.1 gX6_isFull_X6_writtenPages rfl rfl rfl (by decide +kernel) ⟨Nat.le_of_ble_eq_true rfl, Nat.le_of_ble_eq_true rfl⟩) rfl rfl (Nat.le_of_ble_eq_true rfl) dX6_isFull_36 ?_
      refine xr_iload_n C dX6_isFull_39 0 rfl rfl ?_
      refine xr_if_eq C 63 dX6_isFull_40 (by decide) (fun c9 => ?_) (fun c9 => absurd c9 (by decide))
      refine xr_iconst C (v := 0) dX6_isFull_63 (by decide +kernel) ?_
      refine xr_iadd C dX6_isFull_64 ?_
      refine xr_topi C (fun v6 ev6 => ?_)
      have hf := gl_at hf v6 ev6
      refine xr_istore C [(4, .int v6), (3, .int 0), (0, .ref (a 0)), (1, .int x1), (2, .int x2)] dX6_isFull_65 (by decide) rfl ?_
      exact xr_sub C [2, 0] rfl (lab67  v6  hf)
    · rw [if_pos cd3] at hf
      refine xr_iload_n C dX6_isFull_20 2 rfl rfl ?_
      refine xr_bipush C (v := 24) dX6_isFull_21 (by decide +kernel) ?_
      refine xr_iushr C dX6_isFull_23 ?_
      refine xr_bipush C (v := 8) dX6_isFull_24 (by decide +kernel) ?_
      refine xr_icmp_ne C 33 dX6_isFull_26 (by decide) (fun cd11 => ?_) (fun cd11 => ?_)
      · rw [if_neg cd11] at hf
        refine xr_iconst C (v := 0) dX6_isFull_33 (by decide +kernel) ?_
        refine xr_istore_n C [(3, .int 0), (0, .ref (a 0)), (1, .int x1), (2, .int x2)] dX6_isFull_34 rfl (by decide) rfl ?_
        refine xr_aload_n C dX6_isFull_35 1 rfl rfl ?_
        obtain ⟨rr13, ee12, hf⟩ := bR_some hf
        refine xr_callVi C (Cn := RX6) 0 (by decide) rfl rfl [] [] (c_X6_writtenPages l dC dI cI cZ a hD h0 ee12) (cwV 0 C.2.2.1 gX6_isFull_X6_writtenPages rfl rfl rfl (by decide +kernel) ⟨Nat.le_of_ble_eq_true rfl, Nat.le_of_ble_eq_true rfl⟩) rfl rfl (Nat.le_of_ble_eq_true rfl) dX6_isFull_36 ?_
        refine xr_iload_n C dX6_isFull_39 0 rfl rfl ?_
        refine xr_if_eq C 63 dX6_isFull_40 (by decide) (fun c9 => ?_) (fun c9 => absurd c9 (by decide))
        refine xr_iconst C (v := 0) dX6_isFull_63 (by decide +kernel) ?_
        refine xr_iadd C dX6_isFull_64 ?_
        refine xr_topi C (fun v14 ev14 => ?_)
        have hf := gl_at hf v14 ev14
        refine xr_istore C [(4, .int v14), (3, .int 0), (0, .ref (a 0)), (1, .int x1), (2, .int x2)] dX6_isFull_65 (by decide) rfl ?_
        exact xr_sub C [2, 0] rfl (lab67  v14  hf)
      · rw [if_pos cd11] at hf
        refine xr_iconst C (v := 1) dX6_isFull_29 (by decide +kernel) ?_
        refine xr_goto C 34 dX6_isFull_30 (by decide) ?_
        refine xr_istore_n C [(3, .int 1), (0, .ref (a 0)), (1, .int x1), (2, .int x2)] dX6_isFull_34 rfl (by decide) rfl ?_
        refine xr_aload_n C dX6_isFull_35 1 rfl rfl ?_
        obtain ⟨rr16, ee15, hf⟩ := bR_some hf
        refine xr_callVi C (Cn := RX6) 0 (by decide) rfl rfl [] [] (c_X6_writtenPages l dC dI cI cZ a hD h0 ee15) (cwV 0 C.2.2.1 gX6_isFull_X6_writtenPages rfl rfl rfl (by decide +kernel) ⟨Nat.le_of_ble_eq_true rfl, Nat.le_of_ble_eq_true rfl⟩) rfl rfl (Nat.le_of_ble_eq_true rfl) dX6_isFull_36 ?_
        refine xr_iload_n C dX6_isFull_39 0 rfl rfl ?_
        refine xr_if_eq C 63 dX6_isFull_40 (by decide) (fun c9 => absurd c9 (by decide)) (fun c9 => ?_)
        refine xr_aload_n C dX6_isFull_43 1 rfl rfl ?_
        refine xr_get C (ci := 6) (Cn := RX6) (T := TX6) (N := 23) (v := .ref (a 9)) 0 (by decide) rfl rfl 19 (by decide) wnX6 wl34 rfl rfl dX6_isFull_44 ?_
        refine xr_aload_n C dX6_isFull_47 1 rfl rfl ?_
        refine xr_iload_n C dX6_isFull_48 3 rfl rfl ?_
        obtain ⟨rr18, ee17, hf⟩ := bR_some hf
        refine xr_callVi C (Cn := RX6) 0 (by decide) rfl rfl [.int x2] [.ref (a 9), .int rr16] (c_X6_meant l dC dI cI cZ a hD h0 x2 ee17) (cwV 1 C.2.2.1 gX6_isFull_X6_meant rfl rfl rfl (by decide +kernel) ⟨Nat.le_of_ble_eq_true rfl, Nat.le_of_ble_eq_true rfl⟩) rfl rfl (Nat.le_of_ble_eq_true rfl) dX6_isFull_49 ?_
        refine xr_bipush C (v := 16) dX6_isFull_52 (by decide +kernel) ?_
        refine xr_idiv C dX6_isFull_54 (by decide) ?_
        obtain ⟨gg19, hf⟩ := gd_some hf
        refine xr_zald C (v := h0 9 (rr18 / 16).toNatClampNeg) 9 (by decide) 1 rfl rfl gg19 rfl dX6_isFull_55 ?_
        refine xr_if_ne C 63 dX6_isFull_56 (by decide) (fun cd20 => ?_) (fun cd20 => ?_)
        · rw [if_neg cd20] at hf
          refine xr_iconst C (v := 0) dX6_isFull_63 (by decide +kernel) ?_
          refine xr_iadd C dX6_isFull_64 ?_
          refine xr_topi C (fun v21 ev21 => ?_)
          have hf := gl_at hf v21 ev21
          refine xr_istore C [(4, .int v21), (3, .int 1), (0, .ref (a 0)), (1, .int x1), (2, .int x2)] dX6_isFull_65 (by decide) rfl ?_
          exact xr_sub C [2, 0] rfl (lab67  v21  hf)
        · rw [if_pos cd20] at hf
          refine xr_iconst C (v := 1) dX6_isFull_59 (by decide +kernel) ?_
          refine xr_goto C 64 dX6_isFull_60 (by decide) ?_
          refine xr_iadd C dX6_isFull_64 ?_
          refine xr_topi C (fun v22 ev22 => ?_)
          have hf := gl_at hf v22 ev22
          refine xr_istore C [(4, .int v22), (3, .int 1), (0, .ref (a 0)), (1, .int x1), (2, .int x2)] dX6_isFull_65 (by decide) rfl ?_
          exact xr_sub C [2, 0] rfl (lab67  v22  hf)
  · rw [if_neg cd2] at hf
    refine xr_iconst C (v := 0) dX6_isFull_14 (by decide +kernel) ?_
    cases hf
    exact xr_zret C hlk hr (by decide +kernel) dX6_isFull_15
def f_X6_note (h : hp) (x1 : Int32) (x2 : Int32) : Option hp := gd (¬ ((h 0 15) < 0 ∨ 300 ≤ (h 0 15).toNatClampNeg)) (gd (¬ ((h 0 15) < 0 ∨ 300 ≤ (h 0 15).toNatClampNeg)) (gd (¬ ((h 0 15) < 0 ∨ 300 ≤ (h 0 15).toNatClampNeg)) (some (u2 (u2 (u2 (u2 (u2 h 5 (h 0 15).toNatClampNeg (h 0 10)) 6 (h 0 15).toNatClampNeg x1) 7 (h 0 15).toNatClampNeg x2) 0 15 ((h 0 15) + 1)) 0 16 ((h 0 15) + 1)))))
abbrev rmX6_note : Room := { frames := 0, cells := 0, slots := 0, locals := 0 }
set_option maxHeartbeats 4000000 in
set_option maxRecDepth 100000 in
theorem c_X6_note (l : Launch) (dC : Nat → ClassId) (dI : Nat → Nat → Nat) (cI cZ : ClassId) (a : Nat → Nat) (hD : xD 11 a) (h : hp) (x1 : Int32) (x2 : Int32) {h9 : hp} (hf : f_X6_note h x1 x2 = some h9) : XMv l yX6_note wsX6_note rmX6_note (dC, dI) vwCl (mty cI cZ) 11 a (mcf cI cZ a) h [.ref (a 0), .int x1, .int x2] h9 := by
  refine xm_v (cc := cX6_note) (maxL := 3) (ws' := wsX6_note.tail) (by decide) rfl hD (Nat.le_of_ble_eq_true rfl) [(0, .ref (a 0)), (1, .int x1), (2, .int x2)] rfl RX6 rfl ?_
  intro p e s m args below meth c C hlk hr
  have wl22 : Cond.fieldLink RX6 22 "RewindBoxModel" "logAt" "[I" ∈ wsX6_note := by decide +kernel
  have wnX6 : ∀ w ∈ u_ws RX6 TX6 23, w ∈ wsX6_note := by decide +kernel
  have wl74 : Cond.fieldLink RX6 74 "RewindBoxModel" "entries" "I" ∈ wsX6_note := by decide +kernel
  have wl65 : Cond.fieldLink RX6 65 "RewindBoxModel" "position" "I" ∈ wsX6_note := by decide +kernel
  have wl25 : Cond.fieldLink RX6 25 "RewindBoxModel" "logKind" "[I" ∈ wsX6_note := by decide +kernel
  have wl28 : Cond.fieldLink RX6 28 "RewindBoxModel" "logInput" "[I" ∈ wsX6_note := by decide +kernel
  have wl68 : Cond.fieldLink RX6 68 "RewindBoxModel" "passed" "I" ∈ wsX6_note := by decide +kernel
  unfold f_X6_note at hf
  refine xr_aload_n C dX6_note_0 0 rfl rfl ?_
  refine xr_get C (ci := 6) (Cn := RX6) (T := TX6) (N := 23) (v := .ref (a 5)) 0 (by decide) rfl rfl 12 (by decide) wnX6 wl22 rfl rfl dX6_note_1 ?_
  refine xr_aload_n C dX6_note_4 0 rfl rfl ?_
  refine xr_get C (ci := 6) (Cn := RX6) (T := TX6) (N := 23) (v := .int (h 0 15)) 0 (by decide) rfl rfl 15 (by decide) wnX6 wl74 rfl rfl dX6_note_5 ?_
  refine xr_aload_n C dX6_note_8 0 rfl rfl ?_
  refine xr_get C (ci := 6) (Cn := RX6) (T := TX6) (N := 23) (v := .int (h 0 10)) 0 (by decide) rfl rfl 10 (by decide) wnX6 wl65 rfl rfl dX6_note_9 ?_
  obtain ⟨gg1, hf⟩ := gd_some hf
  refine xr_iast C 5 (by decide) 0 (fun _ => rfl) rfl gg1 dX6_note_12 ?_
  refine xr_aload_n C dX6_note_13 0 rfl rfl ?_
  refine xr_get C (ci := 6) (Cn := RX6) (T := TX6) (N := 23) (v := .ref (a 6)) 0 (by decide) rfl rfl 13 (by decide) wnX6 wl25 rfl rfl dX6_note_14 ?_
  refine xr_aload_n C dX6_note_17 0 rfl rfl ?_
  refine xr_get C (ci := 6) (Cn := RX6) (T := TX6) (N := 23) (v := .int (h 0 15)) 0 (by decide) rfl rfl 15 (by decide) wnX6 wl74 rfl rfl dX6_note_18 ?_
  refine xr_iload_n C dX6_note_21 1 rfl rfl ?_
  obtain ⟨gg2, hf⟩ := gd_some hf
  refine xr_iast C 6 (by decide) 0 (fun _ => rfl) rfl gg2 dX6_note_22 ?_
  refine xr_aload_n C dX6_note_23 0 rfl rfl ?_
  refine xr_get C (ci := 6) (Cn := RX6) (T := TX6) (N := 23) (v := .ref (a 7)) 0 (by decide) rfl rfl 14 (by decide) wnX6 wl28 rfl rfl dX6_note_24 ?_
  refine xr_aload_n C dX6_note_27 0 rfl rfl ?_
  refine xr_get C (ci := 6) (Cn := RX6) (T := TX6) (N := 23) (v := .int (h 0 15)) 0 (by decide) rfl rfl 15 (by decide) wnX6 wl74 rfl rfl dX6_note_28 ?_
  refine xr_iload_n C dX6_note_31 2 rfl rfl ?_
  obtain ⟨gg3, hf⟩ := gd_some hf
  refine xr_iast C 7 (by decide) 0 (fun _ => rfl) rfl gg3 dX6_note_32 ?_
  refine xr_aload_n C dX6_note_33 0 rfl rfl ?_
  refine xr_dup C dX6_note_34 rfl ?_
  refine xr_get C (ci := 6) (Cn := RX6) (T := TX6) (N := 23) (v := .int (h 0 15)) 0 (by decide) rfl rfl 15 (by decide) wnX6 wl74 rfl rfl dX6_note_35 ?_
  refine xr_iconst C (v := 1) dX6_note_38 (by decide +kernel) ?_
  refine xr_iadd C dX6_note_39 ?_
  refine xr_put C (ci := 6) (Cn := RX6) (T := TX6) (N := 23) (ty := .int) (v := ((h 0 15) + 1)) 0 (by decide) rfl rfl 15 (by decide) wnX6 wl74 rfl tyX6 tyX6_ok nmX6 rfl (by decide +kernel) rfl rfl (Nat.le_of_ble_eq_true rfl) rfl dX6_note_40 ?_
  refine xr_aload_n C dX6_note_43 0 rfl rfl ?_
  refine xr_aload_n C dX6_note_44 0 rfl rfl ?_
  refine xr_get C (ci := 6) (Cn := RX6) (T := TX6) (N := 23) (v := .int ((h 0 15) + 1)) 0 (by decide) rfl rfl 15 (by decide) wnX6 wl74 rfl rfl dX6_note_45 ?_
  refine xr_put C (ci := 6) (Cn := RX6) (T := TX6) (N := 23) (ty := .int) (v := ((h 0 15) + 1)) 0 (by decide) rfl rfl 16 (by decide) wnX6 wl68 rfl tyX6 tyX6_ok nmX6 rfl (by decide +kernel) rfl rfl (Nat.le_of_ble_eq_true rfl) rfl dX6_note_48 ?_
  cases hf
  exact xr_vret C hlk hr dX6_note_51
def f_X6_takeInput_19 : Nat → hp → Int32 → Int32 → Option (Int32 × hp)
  | 0, _, _, _ => none
  | n + 1, h, x1, x2 => if h 0 21 ≤ x2 then (some (x1, h)) else (gd (¬ ((x2 + 1) < 0 ∨ 100 ≤ (x2 + 1).toNatClampNeg)) (gd (¬ (x2 < 0 ∨ 100 ≤ x2.toNatClampNeg)) (f_X6_takeInput_19 n (u2 h 10 x2.toNatClampNeg (h 10 (x2 + 1).toNatClampNeg)) x1 (x2 + 1))))
def f_X6_takeInput (h : hp)  : Option (Int32 × hp) := gl (h 10 (0 : Int32).toNatClampNeg) (fun v1 => f_X6_takeInput_19 1000 (u2 h 0 21 ((h 0 21) - 1)) v1 0)
abbrev rmX6_takeInput : Room := { frames := 0, cells := 0, slots := 0, locals := 0 }
set_option maxHeartbeats 4000000 in
set_option maxRecDepth 100000 in
theorem c_X6_takeInput (l : Launch) (dC : Nat → ClassId) (dI : Nat → Nat → Nat) (cI cZ : ClassId) (a : Nat → Nat) (hD : xD 11 a) (h : hp)  {r9 : Int32} {h9 : hp} (hf : f_X6_takeInput h  = some (r9, h9)) : XMi l yX6_takeInput wsX6_takeInput rmX6_takeInput (dC, dI) vwCl (mty cI cZ) 11 a (mcf cI cZ a) h [.ref (a 0)] r9 h9 := by
  refine xm_i (cc := cX6_takeInput) (maxL := 3) (ws' := wsX6_takeInput.tail) (by decide) rfl hD (Nat.le_of_ble_eq_true rfl) [(0, .ref (a 0))] rfl RX6 rfl ?_
  intro p e s m args below meth c C hlk hr
  have wl38 : Cond.fieldLink RX6 38 "RewindBoxModel" "inputs" "[I" ∈ wsX6_takeInput := by decide +kernel
  have wnX6 : ∀ w ∈ u_ws RX6 TX6 23, w ∈ wsX6_takeInput := by decide +kernel
  have wl80 : Cond.fieldLink RX6 80 "RewindBoxModel" "waiting" "I" ∈ wsX6_takeInput := by decide +kernel
  have lab19 : ∀ (n : Nat) (h : hp) (x1 : Int32) (x2 : Int32) , f_X6_takeInput_19 n h x1 x2 = some (r9, h9) → XJ p l e rmX6_takeInput s m args below meth c (dC, dI) vwCl 11 a (mcf cI cZ a) 3 (MQ below (XQi (dC, dI) vwCl 11 a (mcf cI cZ a) r9 h9) args s 0 0 (xA 11 a)) h [(0, .ref (a 0)), (1, .int x1), (2, .int x2)] [] 19 := by
    intro n
    induction n with
    | zero => intro h x1 x2  hf; simp [f_X6_takeInput_19] at hf
    | succ n ih =>
      intro h x1 x2  hf
      rw [f_X6_takeInput_19] at hf
      refine xr_iload_n C dX6_takeInput_19 2 rfl rfl ?_
      refine xr_aload_n C dX6_takeInput_20 0 rfl rfl ?_
      refine xr_get C (ci := 6) (Cn := RX6) (T := TX6) (N := 23) (v := .int (h 0 21)) 0 (by decide) rfl rfl 21 (by decide) wnX6 wl80 rfl rfl dX6_takeInput_21 ?_
      refine xr_icmp_ge C 47 dX6_takeInput_24 (by decide) (fun cd2 => ?_) (fun cd2 => ?_)
      · rw [if_pos cd2] at hf
        refine xr_iload_n C dX6_takeInput_47 1 rfl rfl ?_
        cases hf
        exact xr_iret C hlk hr dX6_takeInput_48
      · rw [if_neg cd2] at hf
        refine xr_aload_n C dX6_takeInput_27 0 rfl rfl ?_
        refine xr_get C (ci := 6) (Cn := RX6) (T := TX6) (N := 23) (v := .ref (a 10)) 0 (by decide) rfl rfl 20 (by decide) wnX6 wl38 rfl rfl dX6_takeInput_28 ?_
        refine xr_iload_n C dX6_takeInput_31 2 rfl rfl ?_
        refine xr_aload_n C dX6_takeInput_32 0 rfl rfl ?_
        refine xr_get C (ci := 6) (Cn := RX6) (T := TX6) (N := 23) (v := .ref (a 10)) 0 (by decide) rfl rfl 20 (by decide) wnX6 wl38 rfl rfl dX6_takeInput_33 ?_
        refine xr_iload_n C dX6_takeInput_36 2 rfl rfl ?_
        refine xr_iconst C (v := 1) dX6_takeInput_37 (by decide +kernel) ?_
        refine xr_iadd C dX6_takeInput_38 ?_
        obtain ⟨gg3, hf⟩ := gd_some hf
        refine xr_iald C (v := h 10 (x2 + 1).toNatClampNeg) 10 (by decide) 0 rfl rfl gg3 rfl dX6_takeInput_39 ?_
        obtain ⟨gg4, hf⟩ := gd_some hf
        refine xr_iast C 10 (by decide) 0 (fun _ => rfl) rfl gg4 dX6_takeInput_40 ?_
        refine xr_iinc C [(2, .int (x2 + 1)), (0, .ref (a 0)), (1, .int x1)] dX6_takeInput_41 2 rfl rfl (by decide) rfl ?_
        refine xr_goto C 19 dX6_takeInput_44 (by decide) ?_
        exact xr_sub C [1, 2, 0] rfl (ih (u2 h 10 x2.toNatClampNeg (h 10 (x2 + 1).toNatClampNeg)) x1 (x2 + 1)  hf)
  unfold f_X6_takeInput at hf
  refine xr_aload_n C dX6_takeInput_0 0 rfl rfl ?_
  refine xr_get C (ci := 6) (Cn := RX6) (T := TX6) (N := 23) (v := .ref (a 10)) 0 (by decide) rfl rfl 20 (by decide) wnX6 wl38 rfl rfl dX6_takeInput_1 ?_
  refine xr_iconst C (v := 0) dX6_takeInput_4 (by decide +kernel) ?_
  refine xr_iald C (v := h 10 (0 : Int32).toNatClampNeg) 10 (by decide) 0 rfl rfl (by decide) rfl dX6_takeInput_5 ?_
  refine xr_topi C (fun v1 ev1 => ?_)
  have hf := gl_at hf v1 ev1
  refine xr_istore_n C [(1, .int v1), (0, .ref (a 0))] dX6_takeInput_6 rfl (by decide) rfl ?_
  refine xr_aload_n C dX6_takeInput_7 1 rfl rfl ?_
  refine xr_dup C dX6_takeInput_8 rfl ?_
  refine xr_get C (ci := 6) (Cn := RX6) (T := TX6) (N := 23) (v := .int (h 0 21)) 0 (by decide) rfl rfl 21 (by decide) wnX6 wl80 rfl rfl dX6_takeInput_9 ?_
  refine xr_iconst C (v := 1) dX6_takeInput_12 (by decide +kernel) ?_
  refine xr_isub C dX6_takeInput_13 ?_
  refine xr_put C (ci := 6) (Cn := RX6) (T := TX6) (N := 23) (ty := .int) (v := ((h 0 21) - 1)) 0 (by decide) rfl rfl 21 (by decide) wnX6 wl80 rfl tyX6 tyX6_ok nmX6 rfl (by decide +kernel) rfl rfl (Nat.le_of_ble_eq_true rfl) rfl dX6_takeInput_14 ?_
  refine xr_iconst C (v := 0) dX6_takeInput_17 (by decide +kernel) ?_
  refine xr_istore_n C [(2, .int 0), (1, .int v1), (0, .ref (a 0))] dX6_takeInput_18 rfl (by decide) rfl ?_
  exact xr_sub C [2, 1, 0] rfl (lab19 1000 (u2 h 0 21 ((h 0 21) - 1)) v1 0  hf)
