def f_X6_isPlace (x0 : Int32) : Int32 := if x0 < 0 then ((0 : Int32)) else (if 512 ≤ x0 then ((0 : Int32)) else ((1 : Int32)))
abbrev rmX6_isPlace : Room := { frames := 0, cells := 0, slots := 0, locals := 0 }
set_option maxHeartbeats 4000000 in
set_option maxRecDepth 100000 in
theorem c_X6_isPlace (l : Launch) (dC : Nat → ClassId) (dI : Nat → Nat → Nat) (cI cZ : ClassId) (a : Nat → Nat) (hD : xD 11 a) (h0 : hp) (x0 : Int32) {r9 : Int32} (hf : f_X6_isPlace x0 = r9) : XMi l yX6_isPlace wsX6_isPlace rmX6_isPlace (dC, dI) vwCl (mty cI cZ) 11 a (mcf cI cZ a) h0 [.int x0] r9 h0 := by
  refine xm_i (cc := cX6_isPlace) (maxL := 1) (ws' := wsX6_isPlace.tail) (by decide) rfl hD (Nat.le_of_ble_eq_true rfl) [(0, .int x0)] rfl RX6 rfl ?_
  intro p e s m args below meth c C hlk hr
  unfold f_X6_isPlace at hf
  refine xr_iload_n C dX6_isPlace_0 0 rfl rfl ?_
  refine xr_if_lt C 15 dX6_isPlace_1 (by decide) (fun cd1 => ?_) (fun cd1 => ?_)
  · rw [if_pos cd1] at hf
    refine xr_iconst C (v := 0) dX6_isPlace_15 (by decide +kernel) ?_
    subst hf
    exact xr_zret C hlk hr (by decide +kernel) dX6_isPlace_16
  · rw [if_neg cd1] at hf
    refine xr_iload_n C dX6_isPlace_4 0 rfl rfl ?_
    refine xr_sipush C (v := 512) dX6_isPlace_5 (by decide +kernel) ?_
    refine xr_icmp_ge C 15 dX6_isPlace_8 (by decide) (fun cd2 => ?_) (fun cd2 => ?_)
    · rw [if_pos cd2] at hf
      refine xr_iconst C (v := 0) dX6_isPlace_15 (by decide +kernel) ?_
      subst hf
      exact xr_zret C hlk hr (by decide +kernel) dX6_isPlace_16
    · rw [if_neg cd2] at hf
      refine xr_iconst C (v := 1) dX6_isPlace_11 (by decide +kernel) ?_
      refine xr_goto C 16 dX6_isPlace_12 (by decide) ?_
      subst hf
      exact xr_zret C hlk hr (by decide +kernel) dX6_isPlace_16
def f_X6_poke (h : hp) (x1 : Int32) (x2 : Int32) : Option (Int32 × hp) := if h 0 9 = 0 then (if (f_X6_isPlace x1) = 0 then (some (0, h)) else (gd (¬ (x1 < 0 ∨ 512 ≤ x1.toNatClampNeg)) (some (1, (u2 h 2 x1.toNatClampNeg x2))))) else (some (0, h))
abbrev rmX6_poke : Room := { frames := 1, cells := 0, slots := 0, locals := 20 }
set_option maxHeartbeats 4000000 in
set_option maxRecDepth 100000 in
theorem c_X6_poke (l : Launch) (dC : Nat → ClassId) (dI : Nat → Nat → Nat) (cI cZ : ClassId) (a : Nat → Nat) (hD : xD 11 a) (h : hp) (x1 : Int32) (x2 : Int32) {r9 : Int32} {h9 : hp} (hf : f_X6_poke h x1 x2 = some (r9, h9)) : XMi l yX6_poke wsX6_poke rmX6_poke (dC, dI) vwCl (mty cI cZ) 11 a (mcf cI cZ a) h [.ref (a 0), .int x1, .int x2] r9 h9 := by
  refine xm_i (cc := cX6_poke) (maxL := 3) (ws' := wsX6_poke.tail) (by decide) rfl hD (Nat.le_of_ble_eq_true rfl) [(0, .ref (a 0)), (1, .int x1), (2, .int x2)] rfl RX6 rfl ?_
  intro p e s m args below meth c C hlk hr
  have wl45 : Cond.fieldLink RX6 45 "RewindBoxModel" "records" "Z" ∈ wsX6_poke := by decide +kernel
  have wnX6 : ∀ w ∈ u_ws RX6 TX6 23, w ∈ wsX6_poke := by decide +kernel
  have wl13 : Cond.fieldLink RX6 13 "RewindBoxModel" "memory" "[I" ∈ wsX6_poke := by decide +kernel
  unfold f_X6_poke at hf
  refine xr_aload_n C dX6_poke_0 0 rfl rfl ?_
  refine xr_get C (ci := 6) (Cn := RX6) (T := TX6) (N := 23) (v := .int (h 0 9)) 0 (by decide) rfl rfl 9 (by decide) wnX6 wl45 rfl rfl dX6_poke_1 ?_
  refine xr_if_ne C 14 dX6_poke_4 (by decide) (fun cd1 => ?_) (fun cd1 => ?_)
  · rw [if_neg cd1] at hf
    refine xr_iconst C (v := 0) dX6_poke_14 (by decide +kernel) ?_
    cases hf
    exact xr_zret C hlk hr (by decide +kernel) dX6_poke_15
  · rw [if_pos cd1] at hf
    refine xr_iload_n C dX6_poke_7 1 rfl rfl ?_
    refine xr_callSi C [.int x1] [] (c_X6_isPlace l dC dI cI cZ a hD h x1 rfl) (va_cwS 1 C.2.2.1 gX6_poke_X6_isPlace rfl rfl rfl (by decide +kernel) ⟨Nat.le_of_ble_eq_true rfl, Nat.le_of_ble_eq_true rfl⟩) rfl rfl (Nat.le_of_ble_eq_true rfl) dX6_poke_8 ?_
    refine xr_if_ne C 16 dX6_poke_11 (by decide) (fun cd2 => ?_) (fun cd2 => ?_)
    · rw [if_neg cd2] at hf
      refine xr_aload_n C dX6_poke_16 0 rfl rfl ?_
      refine xr_get C (ci := 6) (Cn := RX6) (T := TX6) (N := 23) (v := .ref (a 2)) 0 (by decide) rfl rfl 2 (by decide) wnX6 wl13 rfl rfl dX6_poke_17 ?_
      refine xr_iload_n C dX6_poke_20 1 rfl rfl ?_
      refine xr_iload_n C dX6_poke_21 2 rfl rfl ?_
      obtain ⟨gg3, hf⟩ := gd_some hf
      refine xr_iast C 2 (by decide) 0 (fun _ => rfl) rfl gg3 dX6_poke_22 ?_
      refine xr_iconst C (v := 1) dX6_poke_23 (by decide +kernel) ?_
      cases hf
      exact xr_zret C hlk hr (by decide +kernel) dX6_poke_24
    · rw [if_pos cd2] at hf
      refine xr_iconst C (v := 0) dX6_poke_14 (by decide +kernel) ?_
      cases hf
      exact xr_zret C hlk hr (by decide +kernel) dX6_poke_15
def f_X6_rewind_50 : Nat → hp → Int32 → Option hp
  | 0, _, _ => none
  | n + 1, h, x1 => if 32 ≤ x1 then (some (u2 (u2 (u2 (u2 (u2 (u2 h 0 4 0) 0 5 0) 0 6 0) 0 8 0) 0 10 0) 0 16 0)) else (gd (¬ (x1 < 0 ∨ 32 ≤ x1.toNatClampNeg)) (f_X6_rewind_50 n (u2 h 9 x1.toNatClampNeg 0) (x1 + 1)))
def f_X6_rewind_29 : Nat → hp → Int32 → Option hp
  | 0, _, _ => none
  | n + 1, h, x1 => if 8 ≤ x1 then (f_X6_rewind_50 1000 h 0) else (gd (¬ (x1 < 0 ∨ 8 ≤ x1.toNatClampNeg)) (f_X6_rewind_29 n (u2 h 3 x1.toNatClampNeg 0) (x1 + 1)))
def f_X6_rewind_2 : Nat → hp → Int32 → Option hp
  | 0, _, _ => none
  | n + 1, h, x1 => if 512 ≤ x1 then (f_X6_rewind_29 1000 h 0) else (gd (¬ (x1 < 0 ∨ 512 ≤ x1.toNatClampNeg)) (gd (¬ (x1 < 0 ∨ 512 ≤ x1.toNatClampNeg)) (f_X6_rewind_2 n (u2 h 2 x1.toNatClampNeg (h 1 x1.toNatClampNeg)) (x1 + 1))))
def f_X6_rewind (h : hp)  : Option hp := f_X6_rewind_2 1000 h 0
abbrev rmX6_rewind : Room := { frames := 0, cells := 0, slots := 0, locals := 0 }
set_option maxHeartbeats 4000000 in
set_option maxRecDepth 100000 in
theorem c_X6_rewind (l : Launch) (dC : Nat → ClassId) (dI : Nat → Nat → Nat) (cI cZ : ClassId) (a : Nat → Nat) (hD : xD 11 a) (h : hp)  {h9 : hp} (hf : f_X6_rewind h  = some h9) : XMv l yX6_rewind wsX6_rewind rmX6_rewind (dC, dI) vwCl (mty cI cZ) 11 a (mcf cI cZ a) h [.ref (a 0)] h9 := by
  refine xm_v (cc := cX6_rewind) (maxL := 2) (ws' := wsX6_rewind.tail) (by decide) rfl hD (Nat.le_of_ble_eq_true rfl) [(0, .ref (a 0))] rfl RX6 rfl ?_
  intro p e s m args below meth c C hlk hr
  have wl53 : Cond.fieldLink RX6 53 "RewindBoxModel" "pc" "I" ∈ wsX6_rewind := by decide +kernel
  have wnX6 : ∀ w ∈ u_ws RX6 TX6 23, w ∈ wsX6_rewind := by decide +kernel
  have wl56 : Cond.fieldLink RX6 56 "RewindBoxModel" "back" "I" ∈ wsX6_rewind := by decide +kernel
  have wl59 : Cond.fieldLink RX6 59 "RewindBoxModel" "open" "Z" ∈ wsX6_rewind := by decide +kernel
  have wl62 : Cond.fieldLink RX6 62 "RewindBoxModel" "sent" "I" ∈ wsX6_rewind := by decide +kernel
  have wl65 : Cond.fieldLink RX6 65 "RewindBoxModel" "position" "I" ∈ wsX6_rewind := by decide +kernel
  have wl68 : Cond.fieldLink RX6 68 "RewindBoxModel" "passed" "I" ∈ wsX6_rewind := by decide +kernel
  have wl34 : Cond.fieldLink RX6 34 "RewindBoxModel" "written" "[Z" ∈ wsX6_rewind := by decide +kernel
  have wl16 : Cond.fieldLink RX6 16 "RewindBoxModel" "registers" "[I" ∈ wsX6_rewind := by decide +kernel
  have wl13 : Cond.fieldLink RX6 13 "RewindBoxModel" "memory" "[I" ∈ wsX6_rewind := by decide +kernel
  have wl7 : Cond.fieldLink RX6 7 "RewindBoxModel" "first" "[I" ∈ wsX6_rewind := by decide +kernel
  have lab50 : ∀ (n : Nat) (h : hp) (x1 : Int32) , f_X6_rewind_50 n h x1 = some h9 → XJ p l e rmX6_rewind s m args below meth c (dC, dI) vwCl 11 a (mcf cI cZ a) 2 (MQ below (XQv (dC, dI) vwCl 11 a (mcf cI cZ a) h9) args s 0 0 (xA 11 a)) h [(0, .ref (a 0)), (1, .int x1)] [] 50 := by
    intro n
    induction n with
    | zero => intro h x1  hf; simp [f_X6_rewind_50] at hf
    | succ n ih =>
      intro h x1  hf
      rw [f_X6_rewind_50] at hf
      refine xr_iload_n C dX6_rewind_50 1 rfl rfl ?_
      refine xr_bipush C (v := 32) dX6_rewind_51 (by decide +kernel) ?_
      refine xr_icmp_ge C 69 dX6_rewind_53 (by decide) (fun cd3 => ?_) (fun cd3 => ?_)
      · rw [if_pos cd3] at hf
        refine xr_aload_n C dX6_rewind_69 0 rfl rfl ?_
        refine xr_iconst C (v := 0) dX6_rewind_70 (by decide +kernel) ?_
        refine xr_put C (ci := 6) (Cn := RX6) (T := TX6) (N := 23) (ty := .int) (v := 0) 0 (by decide) rfl rfl 4 (by decide) wnX6 wl53 rfl tyX6 tyX6_ok nmX6 rfl (by decide +kernel) rfl rfl (Nat.le_of_ble_eq_true rfl) rfl dX6_rewind_71 ?_
        refine xr_aload_n C dX6_rewind_74 0 rfl rfl ?_
        refine xr_iconst C (v := 0) dX6_rewind_75 (by decide +kernel) ?_
        refine xr_put C (ci := 6) (Cn := RX6) (T := TX6) (N := 23) (ty := .int) (v := 0) 0 (by decide) rfl rfl 5 (by decide) wnX6 wl56 rfl tyX6 tyX6_ok nmX6 rfl (by decide +kernel) rfl rfl (Nat.le_of_ble_eq_true rfl) rfl dX6_rewind_76 ?_
        refine xr_aload_n C dX6_rewind_79 0 rfl rfl ?_
        refine xr_iconst C (v := 0) dX6_rewind_80 (by decide +kernel) ?_
        refine xr_put C (ci := 6) (Cn := RX6) (T := TX6) (N := 23) (ty := .boolean) (v := 0) 0 (by decide) rfl rfl 6 (by decide) wnX6 wl59 rfl tyX6 tyX6_ok nmX6 rfl (by decide +kernel) (by decide +kernel) (by decide +kernel) (Nat.le_of_ble_eq_true rfl) rfl dX6_rewind_81 ?_
        refine xr_aload_n C dX6_rewind_84 0 rfl rfl ?_
        refine xr_iconst C (v := 0) dX6_rewind_85 (by decide +kernel) ?_
        refine xr_put C (ci := 6) (Cn := RX6) (T := TX6) (N := 23) (ty := .int) (v := 0) 0 (by decide) rfl rfl 8 (by decide) wnX6 wl62 rfl tyX6 tyX6_ok nmX6 rfl (by decide +kernel) rfl rfl (Nat.le_of_ble_eq_true rfl) rfl dX6_rewind_86 ?_
        refine xr_aload_n C dX6_rewind_89 0 rfl rfl ?_
        refine xr_iconst C (v := 0) dX6_rewind_90 (by decide +kernel) ?_
        refine xr_put C (ci := 6) (Cn := RX6) (T := TX6) (N := 23) (ty := .int) (v := 0) 0 (by decide) rfl rfl 10 (by decide) wnX6 wl65 rfl tyX6 tyX6_ok nmX6 rfl (by decide +kernel) rfl rfl (Nat.le_of_ble_eq_true rfl) rfl dX6_rewind_91 ?_
        refine xr_aload_n C dX6_rewind_94 0 rfl rfl ?_
        refine xr_iconst C (v := 0) dX6_rewind_95 (by decide +kernel) ?_
        refine xr_put C (ci := 6) (Cn := RX6) (T := TX6) (N := 23) (ty := .int) (v := 0) 0 (by decide) rfl rfl 16 (by decide) wnX6 wl68 rfl tyX6 tyX6_ok nmX6 rfl (by decide +kernel) rfl rfl (Nat.le_of_ble_eq_true rfl) rfl dX6_rewind_96 ?_
        cases hf
        exact xr_vret C hlk hr dX6_rewind_99
      · rw [if_neg cd3] at hf
        refine xr_aload_n C dX6_rewind_56 0 rfl rfl ?_
        refine xr_get C (ci := 6) (Cn := RX6) (T := TX6) (N := 23) (v := .ref (a 9)) 0 (by decide) rfl rfl 19 (by decide) wnX6 wl34 rfl rfl dX6_rewind_57 ?_
        refine xr_iload_n C dX6_rewind_60 1 rfl rfl ?_
        refine xr_iconst C (v := 0) dX6_rewind_61 (by decide +kernel) ?_
        obtain ⟨gg4, hf⟩ := gd_some hf
        refine xr_zast C 9 (by decide) 1 (fun _ => rfl) rfl (by decide +kernel) gg4 dX6_rewind_62 ?_
        refine xr_iinc C [(1, .int (x1 + 1)), (0, .ref (a 0))] dX6_rewind_63 1 rfl rfl (by decide) rfl ?_
        refine xr_goto C 50 dX6_rewind_66 (by decide) ?_
        exact xr_sub C [1, 0] rfl (ih (u2 h 9 x1.toNatClampNeg 0) (x1 + 1)  hf)
  have lab29 : ∀ (n : Nat) (h : hp) (x1 : Int32) , f_X6_rewind_29 n h x1 = some h9 → XJ p l e rmX6_rewind s m args below meth c (dC, dI) vwCl 11 a (mcf cI cZ a) 2 (MQ below (XQv (dC, dI) vwCl 11 a (mcf cI cZ a) h9) args s 0 0 (xA 11 a)) h [(0, .ref (a 0)), (1, .int x1)] [] 29 := by
    intro n
    induction n with
    | zero => intro h x1  hf; simp [f_X6_rewind_29] at hf
    | succ n ih =>
      intro h x1  hf
      rw [f_X6_rewind_29] at hf
      refine xr_iload_n C dX6_rewind_29 1 rfl rfl ?_
      refine xr_bipush C (v := 8) dX6_rewind_30 (by decide +kernel) ?_
      refine xr_icmp_ge C 48 dX6_rewind_32 (by decide) (fun cd2 => ?_) (fun cd2 => ?_)
      · rw [if_pos cd2] at hf
        refine xr_iconst C (v := 0) dX6_rewind_48 (by decide +kernel) ?_
        refine xr_istore_n C [(1, .int 0), (0, .ref (a 0))] dX6_rewind_49 rfl (by decide) rfl ?_
        exact xr_sub C [1, 0] rfl (lab50 1000 h 0  hf)
      · rw [if_neg cd2] at hf
        refine xr_aload_n C dX6_rewind_35 0 rfl rfl ?_
        refine xr_get C (ci := 6) (Cn := RX6) (T := TX6) (N := 23) (v := .ref (a 3)) 0 (by decide) rfl rfl 3 (by decide) wnX6 wl16 rfl rfl dX6_rewind_36 ?_
        refine xr_iload_n C dX6_rewind_39 1 rfl rfl ?_
        refine xr_iconst C (v := 0) dX6_rewind_40 (by decide +kernel) ?_
        obtain ⟨gg5, hf⟩ := gd_some hf
        refine xr_iast C 3 (by decide) 0 (fun _ => rfl) rfl gg5 dX6_rewind_41 ?_
        refine xr_iinc C [(1, .int (x1 + 1)), (0, .ref (a 0))] dX6_rewind_42 1 rfl rfl (by decide) rfl ?_
        refine xr_goto C 29 dX6_rewind_45 (by decide) ?_
        exact xr_sub C [1, 0] rfl (ih (u2 h 3 x1.toNatClampNeg 0) (x1 + 1)  hf)
  have lab2 : ∀ (n : Nat) (h : hp) (x1 : Int32) , f_X6_rewind_2 n h x1 = some h9 → XJ p l e rmX6_rewind s m args below meth c (dC, dI) vwCl 11 a (mcf cI cZ a) 2 (MQ below (XQv (dC, dI) vwCl 11 a (mcf cI cZ a) h9) args s 0 0 (xA 11 a)) h [(0, .ref (a 0)), (1, .int x1)] [] 2 := by
    intro n
    induction n with
    | zero => intro h x1  hf; simp [f_X6_rewind_2] at hf
    | succ n ih =>
      intro h x1  hf
      rw [f_X6_rewind_2] at hf
      refine xr_iload_n C dX6_rewind_2 1 rfl rfl ?_
      refine xr_sipush C (v := 512) dX6_rewind_3 (by decide +kernel) ?_
      refine xr_icmp_ge C 27 dX6_rewind_6 (by decide) (fun cd1 => ?_) (fun cd1 => ?_)
      · rw [if_pos cd1] at hf
        refine xr_iconst C (v := 0) dX6_rewind_27 (by decide +kernel) ?_
        refine xr_istore_n C [(1, .int 0), (0, .ref (a 0))] dX6_rewind_28 rfl (by decide) rfl ?_
        exact xr_sub C [1, 0] rfl (lab29 1000 h 0  hf)
      · rw [if_neg cd1] at hf
        refine xr_aload_n C dX6_rewind_9 0 rfl rfl ?_
        refine xr_get C (ci := 6) (Cn := RX6) (T := TX6) (N := 23) (v := .ref (a 2)) 0 (by decide) rfl rfl 2 (by decide) wnX6 wl13 rfl rfl dX6_rewind_10 ?_
        refine xr_iload_n C dX6_rewind_13 1 rfl rfl ?_
        refine xr_aload_n C dX6_rewind_14 0 rfl rfl ?_
        refine xr_get C (ci := 6) (Cn := RX6) (T := TX6) (N := 23) (v := .ref (a 1)) 0 (by decide) rfl rfl 1 (by decide) wnX6 wl7 rfl rfl dX6_rewind_15 ?_
        refine xr_iload_n C dX6_rewind_18 1 rfl rfl ?_
        obtain ⟨gg6, hf⟩ := gd_some hf
        refine xr_iald C (v := h 1 x1.toNatClampNeg) 1 (by decide) 0 rfl rfl gg6 rfl dX6_rewind_19 ?_
        obtain ⟨gg7, hf⟩ := gd_some hf
        refine xr_iast C 2 (by decide) 0 (fun _ => rfl) rfl gg7 dX6_rewind_20 ?_
        refine xr_iinc C [(1, .int (x1 + 1)), (0, .ref (a 0))] dX6_rewind_21 1 rfl rfl (by decide) rfl ?_
        refine xr_goto C 2 dX6_rewind_24 (by decide) ?_
        exact xr_sub C [1, 0] rfl (ih (u2 h 2 x1.toNatClampNeg (h 1 x1.toNatClampNeg)) (x1 + 1)  hf)
  unfold f_X6_rewind at hf
  refine xr_iconst C (v := 0) dX6_rewind_0 (by decide +kernel) ?_
  refine xr_istore_n C [(1, .int 0), (0, .ref (a 0))] dX6_rewind_1 rfl (by decide) rfl ?_
  exact xr_sub C [1, 0] rfl (lab2 1000 h 0  hf)
def f_X6_start_2 : Nat → hp → Int32 → Option hp
  | 0, _, _ => none
  | n + 1, h, x1 => if 512 ≤ x1 then (bV (f_X6_rewind (u2 (u2 (u2 (u2 (u2 (u2 (u2 h 0 9 1) 0 11 0) 0 15 0) 0 17 1) 8 (0 : Int32).toNatClampNeg 0) 0 21 0) 0 22 0)) (fun hh3 => some hh3)) else (gd (¬ (x1 < 0 ∨ 512 ≤ x1.toNatClampNeg)) (gd (¬ (x1 < 0 ∨ 512 ≤ x1.toNatClampNeg)) (f_X6_start_2 n (u2 h 1 x1.toNatClampNeg (h 2 x1.toNatClampNeg)) (x1 + 1))))
def f_X6_start (h : hp)  : Option hp := f_X6_start_2 1000 h 0
abbrev rmX6_start : Room := { frames := 1, cells := 0, slots := 0, locals := 21 }
set_option maxHeartbeats 4000000 in
set_option maxRecDepth 100000 in
theorem c_X6_start (l : Launch) (dC : Nat → ClassId) (dI : Nat → Nat → Nat) (cI cZ : ClassId) (a : Nat → Nat) (hD : xD 11 a) (h : hp)  {h9 : hp} (hf : f_X6_start h  = some h9) : XMv l yX6_start wsX6_start rmX6_start (dC, dI) vwCl (mty cI cZ) 11 a (mcf cI cZ a) h [.ref (a 0)] h9 := by
  refine xm_v (cc := cX6_start) (maxL := 2) (ws' := wsX6_start.tail) (by decide) rfl hD (Nat.le_of_ble_eq_true rfl) [(0, .ref (a 0))] rfl RX6 rfl ?_
  intro p e s m args below meth c C hlk hr
  have wl45 : Cond.fieldLink RX6 45 "RewindBoxModel" "records" "Z" ∈ wsX6_start := by decide +kernel
  have wnX6 : ∀ w ∈ u_ws RX6 TX6 23, w ∈ wsX6_start := by decide +kernel
  have wl71 : Cond.fieldLink RX6 71 "RewindBoxModel" "end" "I" ∈ wsX6_start := by decide +kernel
  have wl74 : Cond.fieldLink RX6 74 "RewindBoxModel" "entries" "I" ∈ wsX6_start := by decide +kernel
  have wl77 : Cond.fieldLink RX6 77 "RewindBoxModel" "snapshots" "I" ∈ wsX6_start := by decide +kernel
  have wl31 : Cond.fieldLink RX6 31 "RewindBoxModel" "pagesOf" "[I" ∈ wsX6_start := by decide +kernel
  have wl80 : Cond.fieldLink RX6 80 "RewindBoxModel" "waiting" "I" ∈ wsX6_start := by decide +kernel
  have wl83 : Cond.fieldLink RX6 83 "RewindBoxModel" "rang" "Z" ∈ wsX6_start := by decide +kernel
  have wl7 : Cond.fieldLink RX6 7 "RewindBoxModel" "first" "[I" ∈ wsX6_start := by decide +kernel
  have wl13 : Cond.fieldLink RX6 13 "RewindBoxModel" "memory" "[I" ∈ wsX6_start := by decide +kernel
  have lab2 : ∀ (n : Nat) (h : hp) (x1 : Int32) , f_X6_start_2 n h x1 = some h9 → XJ p l e rmX6_start s m args below meth c (dC, dI) vwCl 11 a (mcf cI cZ a) 2 (MQ below (XQv (dC, dI) vwCl 11 a (mcf cI cZ a) h9) args s 0 0 (xA 11 a)) h [(0, .ref (a 0)), (1, .int x1)] [] 2 := by
    intro n
    induction n with
    | zero => intro h x1  hf; simp [f_X6_start_2] at hf
    | succ n ih =>
      intro h x1  hf
      rw [f_X6_start_2] at hf
      refine xr_iload_n C dX6_start_2 1 rfl rfl ?_
      refine xr_sipush C (v := 512) dX6_start_3 (by decide +kernel) ?_
      refine xr_icmp_ge C 27 dX6_start_6 (by decide) (fun cd1 => ?_) (fun cd1 => ?_)
      · rw [if_pos cd1] at hf
        refine xr_aload_n C dX6_start_27 0 rfl rfl ?_
        refine xr_iconst C (v := 1) dX6_start_28 (by decide +kernel) ?_
        refine xr_put C (ci := 6) (Cn := RX6) (T := TX6) (N := 23) (ty := .boolean) (v := 1) 0 (by decide) rfl rfl 9 (by decide) wnX6 wl45 rfl tyX6 tyX6_ok nmX6 rfl (by decide +kernel) (by decide +kernel) (by decide +kernel) (Nat.le_of_ble_eq_true rfl) rfl dX6_start_29 ?_
        refine xr_aload_n C dX6_start_32 0 rfl rfl ?_
        refine xr_iconst C (v := 0) dX6_start_33 (by decide +kernel) ?_
        refine xr_put C (ci := 6) (Cn := RX6) (T := TX6) (N := 23) (ty := .int) (v := 0) 0 (by decide) rfl rfl 11 (by decide) wnX6 wl71 rfl tyX6 tyX6_ok nmX6 rfl (by decide +kernel) rfl rfl (Nat.le_of_ble_eq_true rfl) rfl dX6_start_34 ?_
        refine xr_aload_n C dX6_start_37 0 rfl rfl ?_
        refine xr_iconst C (v := 0) dX6_start_38 (by decide +kernel) ?_
        refine xr_put C (ci := 6) (Cn := RX6) (T := TX6) (N := 23) (ty := .int) (v := 0) 0 (by decide) rfl rfl 15 (by decide) wnX6 wl74 rfl tyX6 tyX6_ok nmX6 rfl (by decide +kernel) rfl rfl (Nat.le_of_ble_eq_true rfl) rfl dX6_start_39 ?_
        refine xr_aload_n C dX6_start_42 0 rfl rfl ?_
        refine xr_iconst C (v := 1) dX6_start_43 (by decide +kernel) ?_
        refine xr_put C (ci := 6) (Cn := RX6) (T := TX6) (N := 23) (ty := .int) (v := 1) 0 (by decide) rfl rfl 17 (by decide) wnX6 wl77 rfl tyX6 tyX6_ok nmX6 rfl (by decide +kernel) rfl rfl (Nat.le_of_ble_eq_true rfl) rfl dX6_start_44 ?_
        refine xr_aload_n C dX6_start_47 0 rfl rfl ?_
        refine xr_get C (ci := 6) (Cn := RX6) (T := TX6) (N := 23) (v := .ref (a 8)) 0 (by decide) rfl rfl 18 (by decide) wnX6 wl31 rfl rfl dX6_start_48 ?_
        refine xr_iconst C (v := 0) dX6_start_51 (by decide +kernel) ?_
        refine xr_iconst C (v := 0) dX6_start_52 (by decide +kernel) ?_
        refine xr_iast C 8 (by decide) 0 (fun _ => rfl) rfl (by decide) dX6_start_53 ?_
        refine xr_aload_n C dX6_start_54 0 rfl rfl ?_
        refine xr_iconst C (v := 0) dX6_start_55 (by decide +kernel) ?_
        refine xr_put C (ci := 6) (Cn := RX6) (T := TX6) (N := 23) (ty := .int) (v := 0) 0 (by decide) rfl rfl 21 (by decide) wnX6 wl80 rfl tyX6 tyX6_ok nmX6 rfl (by decide +kernel) rfl rfl (Nat.le_of_ble_eq_true rfl) rfl dX6_start_56 ?_
        refine xr_aload_n C dX6_start_59 0 rfl rfl ?_
        refine xr_iconst C (v := 0) dX6_start_60 (by decide +kernel) ?_
        refine xr_put C (ci := 6) (Cn := RX6) (T := TX6) (N := 23) (ty := .boolean) (v := 0) 0 (by decide) rfl rfl 22 (by decide) wnX6 wl83 rfl tyX6 tyX6_ok nmX6 rfl (by decide +kernel) (by decide +kernel) (by decide +kernel) (Nat.le_of_ble_eq_true rfl) rfl dX6_start_61 ?_
        refine xr_aload_n C dX6_start_64 0 rfl rfl ?_
        obtain ⟨hh3, ee2, hf⟩ := bV_some hf
        refine xr_callVv C (Cn := RX6) 0 (by decide) rfl rfl [] [] (c_X6_rewind l dC dI cI cZ a hD (u2 (u2 (u2 (u2 (u2 (u2 (u2 h 0 9 1) 0 11 0) 0 15 0) 0 17 1) 8 (0 : Int32).toNatClampNeg 0) 0 21 0) 0 22 0) ee2) (cwV 0 C.2.2.1 gX6_start_X6_rewind rfl rfl rfl (by decide +kernel) ⟨Nat.le_of_ble_eq_true rfl, Nat.le_of_ble_eq_true rfl⟩) rfl rfl (Nat.le_of_ble_eq_true rfl) dX6_start_65 ?_
        cases hf
        exact xr_vret C hlk hr dX6_start_68
      · rw [if_neg cd1] at hf
        refine xr_aload_n C dX6_start_9 0 rfl rfl ?_
        refine xr_get C (ci := 6) (Cn := RX6) (T := TX6) (N := 23) (v := .ref (a 1)) 0 (by decide) rfl rfl 1 (by decide) wnX6 wl7 rfl rfl dX6_start_10 ?_
        refine xr_iload_n C dX6_start_13 1 rfl rfl ?_
        refine xr_aload_n C dX6_start_14 0 rfl rfl ?_
        refine xr_get C (ci := 6) (Cn := RX6) (T := TX6) (N := 23) (v := .ref (a 2)) 0 (by decide) rfl rfl 2 (by decide) wnX6 wl13 rfl rfl dX6_start_15 ?_
        refine xr_iload_n C dX6_start_18 1 rfl rfl ?_
        obtain ⟨gg4, hf⟩ := gd_some hf
        refine xr_iald C (v := h 2 x1.toNatClampNeg) 2 (by decide) 0 rfl rfl gg4 rfl dX6_start_19 ?_
        obtain ⟨gg5, hf⟩ := gd_some hf
        refine xr_iast C 1 (by decide) 0 (fun _ => rfl) rfl gg5 dX6_start_20 ?_
        refine xr_iinc C [(1, .int (x1 + 1)), (0, .ref (a 0))] dX6_start_21 1 rfl rfl (by decide) rfl ?_
        refine xr_goto C 2 dX6_start_24 (by decide) ?_
        exact xr_sub C [1, 0] rfl (ih (u2 h 1 x1.toNatClampNeg (h 2 x1.toNatClampNeg)) (x1 + 1)  hf)
  unfold f_X6_start at hf
  refine xr_iconst C (v := 0) dX6_start_0 (by decide +kernel) ?_
  refine xr_istore_n C [(1, .int 0), (0, .ref (a 0))] dX6_start_1 rfl (by decide) rfl ?_
  exact xr_sub C [1, 0] rfl (lab2 1000 h 0  hf)
def f_X6_stop (h : hp)  : Option hp := some (u2 h 0 9 0)
abbrev rmX6_stop : Room := { frames := 0, cells := 0, slots := 0, locals := 0 }
set_option maxHeartbeats 4000000 in
set_option maxRecDepth 100000 in
theorem c_X6_stop (l : Launch) (dC : Nat → ClassId) (dI : Nat → Nat → Nat) (cI cZ : ClassId) (a : Nat → Nat) (hD : xD 11 a) (h : hp)  {h9 : hp} (hf : f_X6_stop h  = some h9) : XMv l yX6_stop wsX6_stop rmX6_stop (dC, dI) vwCl (mty cI cZ) 11 a (mcf cI cZ a) h [.ref (a 0)] h9 := by
  refine xm_v (cc := cX6_stop) (maxL := 1) (ws' := wsX6_stop.tail) (by decide) rfl hD (Nat.le_of_ble_eq_true rfl) [(0, .ref (a 0))] rfl RX6 rfl ?_
  intro p e s m args below meth c C hlk hr
  have wl45 : Cond.fieldLink RX6 45 "RewindBoxModel" "records" "Z" ∈ wsX6_stop := by decide +kernel
  have wnX6 : ∀ w ∈ u_ws RX6 TX6 23, w ∈ wsX6_stop := by decide +kernel
  unfold f_X6_stop at hf
  refine xr_aload_n C dX6_stop_0 0 rfl rfl ?_
  refine xr_iconst C (v := 0) dX6_stop_1 (by decide +kernel) ?_
  refine xr_put C (ci := 6) (Cn := RX6) (T := TX6) (N := 23) (ty := .boolean) (v := 0) 0 (by decide) rfl rfl 9 (by decide) wnX6 wl45 rfl tyX6 tyX6_ok nmX6 rfl (by decide +kernel) (by decide +kernel) (by decide +kernel) (Nat.le_of_ble_eq_true rfl) rfl dX6_stop_2 ?_
  cases hf
  exact xr_vret C hlk hr dX6_stop_5
def f_X6_give (h : hp) (x1 : Int32) : Option (Int32 × hp) := if h 0 9 = 0 then (some ((-1), h)) else (if h 0 21 = 100 then (some ((-1), h)) else (gd (¬ ((h 0 21) < 0 ∨ 100 ≤ (h 0 21).toNatClampNeg)) (some (((h 0 21) + 1), (u2 (u2 h 10 (h 0 21).toNatClampNeg x1) 0 21 ((h 0 21) + 1))))))
abbrev rmX6_give : Room := { frames := 0, cells := 0, slots := 0, locals := 0 }
set_option maxHeartbeats 4000000 in
set_option maxRecDepth 100000 in
theorem c_X6_give (l : Launch) (dC : Nat → ClassId) (dI : Nat → Nat → Nat) (cI cZ : ClassId) (a : Nat → Nat) (hD : xD 11 a) (h : hp) (x1 : Int32) {r9 : Int32} {h9 : hp} (hf : f_X6_give h x1 = some (r9, h9)) : XMi l yX6_give wsX6_give rmX6_give (dC, dI) vwCl (mty cI cZ) 11 a (mcf cI cZ a) h [.ref (a 0), .int x1] r9 h9 := by
  refine xm_i (cc := cX6_give) (maxL := 2) (ws' := wsX6_give.tail) (by decide) rfl hD (Nat.le_of_ble_eq_true rfl) [(0, .ref (a 0)), (1, .int x1)] rfl RX6 rfl ?_
  intro p e s m args below meth c C hlk hr
  have wl45 : Cond.fieldLink RX6 45 "RewindBoxModel" "records" "Z" ∈ wsX6_give := by decide +kernel
  have wnX6 : ∀ w ∈ u_ws RX6 TX6 23, w ∈ wsX6_give := by decide +kernel
  have wl80 : Cond.fieldLink RX6 80 "RewindBoxModel" "waiting" "I" ∈ wsX6_give := by decide +kernel
  have wl38 : Cond.fieldLink RX6 38 "RewindBoxModel" "inputs" "[I" ∈ wsX6_give := by decide +kernel
  unfold f_X6_give at hf
  refine xr_aload_n C dX6_give_0 0 rfl rfl ?_
  refine xr_get C (ci := 6) (Cn := RX6) (T := TX6) (N := 23) (v := .int (h 0 9)) 0 (by decide) rfl rfl 9 (by decide) wnX6 wl45 rfl rfl dX6_give_1 ?_
  refine xr_if_eq C 16 dX6_give_4 (by decide) (fun cd1 => ?_) (fun cd1 => ?_)
  · rw [if_pos cd1] at hf
    refine xr_iconst C (v := (-1)) dX6_give_16 (by decide +kernel) ?_
    cases hf
    exact xr_iret C hlk hr dX6_give_17
  · rw [if_neg cd1] at hf
    refine xr_aload_n C dX6_give_7 0 rfl rfl ?_
    refine xr_get C (ci := 6) (Cn := RX6) (T := TX6) (N := 23) (v := .int (h 0 21)) 0 (by decide) rfl rfl 21 (by decide) wnX6 wl80 rfl rfl dX6_give_8 ?_
    refine xr_bipush C (v := 100) dX6_give_11 (by decide +kernel) ?_
    refine xr_icmp_ne C 18 dX6_give_13 (by decide) (fun cd2 => ?_) (fun cd2 => ?_)
    · rw [if_neg cd2] at hf
      refine xr_aload_n C dX6_give_18 0 rfl rfl ?_
      refine xr_get C (ci := 6) (Cn := RX6) (T := TX6) (N := 23) (v := .ref (a 10)) 0 (by decide) rfl rfl 20 (by decide) wnX6 wl38 rfl rfl dX6_give_19 ?_
      refine xr_aload_n C dX6_give_22 0 rfl rfl ?_
      refine xr_get C (ci := 6) (Cn := RX6) (T := TX6) (N := 23) (v := .int (h 0 21)) 0 (by decide) rfl rfl 21 (by decide) wnX6 wl80 rfl rfl dX6_give_23 ?_
      refine xr_iload_n C dX6_give_26 1 rfl rfl ?_
      obtain ⟨gg3, hf⟩ := gd_some hf
      refine xr_iast C 10 (by decide) 0 (fun _ => rfl) rfl gg3 dX6_give_27 ?_
      refine xr_aload_n C dX6_give_28 0 rfl rfl ?_
      refine xr_dup C dX6_give_29 rfl ?_
      refine xr_get C (ci := 6) (Cn := RX6) (T := TX6) (N := 23) (v := .int (h 0 21)) 0 (by decide) rfl rfl 21 (by decide) wnX6 wl80 rfl rfl dX6_give_30 ?_
      refine xr_iconst C (v := 1) dX6_give_33 (by decide +kernel) ?_
      refine xr_iadd C dX6_give_34 ?_
      refine xr_put C (ci := 6) (Cn := RX6) (T := TX6) (N := 23) (ty := .int) (v := ((h 0 21) + 1)) 0 (by decide) rfl rfl 21 (by decide) wnX6 wl80 rfl tyX6 tyX6_ok nmX6 rfl (by decide +kernel) rfl rfl (Nat.le_of_ble_eq_true rfl) rfl dX6_give_35 ?_
      refine xr_aload_n C dX6_give_38 0 rfl rfl ?_
      refine xr_get C (ci := 6) (Cn := RX6) (T := TX6) (N := 23) (v := .int ((h 0 21) + 1)) 0 (by decide) rfl rfl 21 (by decide) wnX6 wl80 rfl rfl dX6_give_39 ?_
      cases hf
      exact xr_iret C hlk hr dX6_give_42
    · rw [if_pos cd2] at hf
      refine xr_iconst C (v := (-1)) dX6_give_16 (by decide +kernel) ?_
      cases hf
      exact xr_iret C hlk hr dX6_give_17
def f_X6_ring (h : hp)  : Option (Int32 × hp) := if h 0 9 = 0 then (gd ((h 0 9) = 0 ∨ (h 0 9) = 1) (some (h 0 9, h))) else (gd ((h 0 9) = 0 ∨ (h 0 9) = 1) (some (h 0 9, (u2 h 0 22 1))))
abbrev rmX6_ring : Room := { frames := 0, cells := 0, slots := 0, locals := 0 }
set_option maxHeartbeats 4000000 in
set_option maxRecDepth 100000 in
theorem c_X6_ring (l : Launch) (dC : Nat → ClassId) (dI : Nat → Nat → Nat) (cI cZ : ClassId) (a : Nat → Nat) (hD : xD 11 a) (h : hp)  {r9 : Int32} {h9 : hp} (hf : f_X6_ring h  = some (r9, h9)) : XMi l yX6_ring wsX6_ring rmX6_ring (dC, dI) vwCl (mty cI cZ) 11 a (mcf cI cZ a) h [.ref (a 0)] r9 h9 := by
  refine xm_i (cc := cX6_ring) (maxL := 1) (ws' := wsX6_ring.tail) (by decide) rfl hD (Nat.le_of_ble_eq_true rfl) [(0, .ref (a 0))] rfl RX6 rfl ?_
  intro p e s m args below meth c C hlk hr
  have wl45 : Cond.fieldLink RX6 45 "RewindBoxModel" "records" "Z" ∈ wsX6_ring := by decide +kernel
  have wnX6 : ∀ w ∈ u_ws RX6 TX6 23, w ∈ wsX6_ring := by decide +kernel
  have wl83 : Cond.fieldLink RX6 83 "RewindBoxModel" "rang" "Z" ∈ wsX6_ring := by decide +kernel
  unfold f_X6_ring at hf
  refine xr_aload_n C dX6_ring_0 0 rfl rfl ?_
  refine xr_get C (ci := 6) (Cn := RX6) (T := TX6) (N := 23) (v := .int (h 0 9)) 0 (by decide) rfl rfl 9 (by decide) wnX6 wl45 rfl rfl dX6_ring_1 ?_
  refine xr_if_eq C 12 dX6_ring_4 (by decide) (fun cd1 => ?_) (fun cd1 => ?_)
  · rw [if_pos cd1] at hf
    refine xr_aload_n C dX6_ring_12 0 rfl rfl ?_
    refine xr_get C (ci := 6) (Cn := RX6) (T := TX6) (N := 23) (v := .int (h 0 9)) 0 (by decide) rfl rfl 9 (by decide) wnX6 wl45 rfl rfl dX6_ring_13 ?_
    obtain ⟨gg2, hf⟩ := gd_some hf
    cases hf
    exact xr_zret C hlk hr (xb_z gg2).1 dX6_ring_16
  · rw [if_neg cd1] at hf
    refine xr_aload_n C dX6_ring_7 0 rfl rfl ?_
    refine xr_iconst C (v := 1) dX6_ring_8 (by decide +kernel) ?_
    refine xr_put C (ci := 6) (Cn := RX6) (T := TX6) (N := 23) (ty := .boolean) (v := 1) 0 (by decide) rfl rfl 22 (by decide) wnX6 wl83 rfl tyX6 tyX6_ok nmX6 rfl (by decide +kernel) (by decide +kernel) (by decide +kernel) (Nat.le_of_ble_eq_true rfl) rfl dX6_ring_9 ?_
    refine xr_aload_n C dX6_ring_12 0 rfl rfl ?_
    refine xr_get C (ci := 6) (Cn := RX6) (T := TX6) (N := 23) (v := .int (h 0 9)) 0 (by decide) rfl rfl 9 (by decide) wnX6 wl45 rfl rfl dX6_ring_13 ?_
    obtain ⟨gg3, hf⟩ := gd_some hf
    cases hf
    exact xr_zret C hlk hr (xb_z gg3).1 dX6_ring_16
def f_X6_meant (h0 : hp) (x1 : Int32) : Option Int32 := gd (¬ (((x1 >>> (8 &&& 31)) &&& 7) < 0 ∨ 8 ≤ ((x1 >>> (8 &&& 31)) &&& 7).toNatClampNeg)) (some (((h0 3 ((x1 >>> (8 &&& 31)) &&& 7).toNatClampNeg) + x1.toInt8.toInt32) &&& 511))
abbrev rmX6_meant : Room := { frames := 0, cells := 0, slots := 0, locals := 0 }
set_option maxHeartbeats 4000000 in
set_option maxRecDepth 100000 in
theorem c_X6_meant (l : Launch) (dC : Nat → ClassId) (dI : Nat → Nat → Nat) (cI cZ : ClassId) (a : Nat → Nat) (hD : xD 11 a) (h0 : hp) (x1 : Int32) {r9 : Int32} (hf : f_X6_meant h0 x1 = some r9) : XMi l yX6_meant wsX6_meant rmX6_meant (dC, dI) vwCl (mty cI cZ) 11 a (mcf cI cZ a) h0 [.ref (a 0), .int x1] r9 h0 := by
  refine xm_i (cc := cX6_meant) (maxL := 2) (ws' := wsX6_meant.tail) (by decide) rfl hD (Nat.le_of_ble_eq_true rfl) [(0, .ref (a 0)), (1, .int x1)] rfl RX6 rfl ?_
  intro p e s m args below meth c C hlk hr
  have wl16 : Cond.fieldLink RX6 16 "RewindBoxModel" "registers" "[I" ∈ wsX6_meant := by decide +kernel
  have wnX6 : ∀ w ∈ u_ws RX6 TX6 23, w ∈ wsX6_meant := by decide +kernel
  unfold f_X6_meant at hf
  refine xr_aload_n C dX6_meant_0 0 rfl rfl ?_
  refine xr_get C (ci := 6) (Cn := RX6) (T := TX6) (N := 23) (v := .ref (a 3)) 0 (by decide) rfl rfl 3 (by decide) wnX6 wl16 rfl rfl dX6_meant_1 ?_
  refine xr_iload_n C dX6_meant_4 1 rfl rfl ?_
  refine xr_bipush C (v := 8) dX6_meant_5 (by decide +kernel) ?_
  refine xr_ishr C dX6_meant_7 ?_
  refine xr_bipush C (v := 7) dX6_meant_8 (by decide +kernel) ?_
  refine xr_iand C dX6_meant_10 ?_
  obtain ⟨gg1, hf⟩ := gd_some hf
  refine xr_iald C (v := h0 3 ((x1 >>> (8 &&& 31)) &&& 7).toNatClampNeg) 3 (by decide) 0 rfl rfl gg1 rfl dX6_meant_11 ?_
  refine xr_iload_n C dX6_meant_12 1 rfl rfl ?_
  refine xr_i2b C dX6_meant_13 ?_
  refine xr_iadd C dX6_meant_14 ?_
  refine xr_sipush C (v := 511) dX6_meant_15 (by decide +kernel) ?_
  refine xr_iand C dX6_meant_18 ?_
  cases hf
  exact xr_iret C hlk hr dX6_meant_19
def f_X6_interrupt (h : hp)  : Option hp := some (u2 (u2 (u2 h 0 5 (h 0 4)) 0 4 8) 0 6 0)
abbrev rmX6_interrupt : Room := { frames := 0, cells := 0, slots := 0, locals := 0 }
set_option maxHeartbeats 4000000 in
set_option maxRecDepth 100000 in
theorem c_X6_interrupt (l : Launch) (dC : Nat → ClassId) (dI : Nat → Nat → Nat) (cI cZ : ClassId) (a : Nat → Nat) (hD : xD 11 a) (h : hp)  {h9 : hp} (hf : f_X6_interrupt h  = some h9) : XMv l yX6_interrupt wsX6_interrupt rmX6_interrupt (dC, dI) vwCl (mty cI cZ) 11 a (mcf cI cZ a) h [.ref (a 0)] h9 := by
  refine xm_v (cc := cX6_interrupt) (maxL := 1) (ws' := wsX6_interrupt.tail) (by decide) rfl hD (Nat.le_of_ble_eq_true rfl) [(0, .ref (a 0))] rfl RX6 rfl ?_
  intro p e s m args below meth c C hlk hr
  have wl53 : Cond.fieldLink RX6 53 "RewindBoxModel" "pc" "I" ∈ wsX6_interrupt := by decide +kernel
  have wnX6 : ∀ w ∈ u_ws RX6 TX6 23, w ∈ wsX6_interrupt := by decide +kernel
  have wl56 : Cond.fieldLink RX6 56 "RewindBoxModel" "back" "I" ∈ wsX6_interrupt := by decide +kernel
  have wl59 : Cond.fieldLink RX6 59 "RewindBoxModel" "open" "Z" ∈ wsX6_interrupt := by decide +kernel
  unfold f_X6_interrupt at hf
  refine xr_aload_n C dX6_interrupt_0 0 rfl rfl ?_
  refine xr_aload_n C dX6_interrupt_1 0 rfl rfl ?_
  refine xr_get C (ci := 6) (Cn := RX6) (T := TX6) (N := 23) (v := .int (h 0 4)) 0 (by decide) rfl rfl 4 (by decide) wnX6 wl53 rfl rfl dX6_interrupt_2 ?_
  refine xr_put C (ci := 6) (Cn := RX6) (T := TX6) (N := 23) (ty := .int) (v := h 0 4) 0 (by decide) rfl rfl 5 (by decide) wnX6 wl56 rfl tyX6 tyX6_ok nmX6 rfl (by decide +kernel) rfl rfl (Nat.le_of_ble_eq_true rfl) rfl dX6_interrupt_5 ?_
  refine xr_aload_n C dX6_interrupt_8 0 rfl rfl ?_
  refine xr_bipush C (v := 8) dX6_interrupt_9 (by decide +kernel) ?_
  refine xr_put C (ci := 6) (Cn := RX6) (T := TX6) (N := 23) (ty := .int) (v := 8) 0 (by decide) rfl rfl 4 (by decide) wnX6 wl53 rfl tyX6 tyX6_ok nmX6 rfl (by decide +kernel) rfl rfl (Nat.le_of_ble_eq_true rfl) rfl dX6_interrupt_11 ?_
  refine xr_aload_n C dX6_interrupt_14 0 rfl rfl ?_
  refine xr_iconst C (v := 0) dX6_interrupt_15 (by decide +kernel) ?_
  refine xr_put C (ci := 6) (Cn := RX6) (T := TX6) (N := 23) (ty := .boolean) (v := 0) 0 (by decide) rfl rfl 6 (by decide) wnX6 wl59 rfl tyX6 tyX6_ok nmX6 rfl (by decide +kernel) (by decide +kernel) (by decide +kernel) (Nat.le_of_ble_eq_true rfl) rfl dX6_interrupt_16 ?_
  cases hf
  exact xr_vret C hlk hr dX6_interrupt_19
def f_X6_send (h : hp) (x1 : Int32) : Option hp := if 64 ≤ h 0 8 then (some (u2 h 0 8 ((h 0 8) + 1))) else (gd (¬ ((h 0 8) < 0 ∨ 64 ≤ (h 0 8).toNatClampNeg)) (some (u2 (u2 h 4 (h 0 8).toNatClampNeg x1) 0 8 ((h 0 8) + 1))))
abbrev rmX6_send : Room := { frames := 0, cells := 0, slots := 0, locals := 0 }
set_option maxHeartbeats 4000000 in
set_option maxRecDepth 100000 in
theorem c_X6_send (l : Launch) (dC : Nat → ClassId) (dI : Nat → Nat → Nat) (cI cZ : ClassId) (a : Nat → Nat) (hD : xD 11 a) (h : hp) (x1 : Int32) {h9 : hp} (hf : f_X6_send h x1 = some h9) : XMv l yX6_send wsX6_send rmX6_send (dC, dI) vwCl (mty cI cZ) 11 a (mcf cI cZ a) h [.ref (a 0), .int x1] h9 := by
  refine xm_v (cc := cX6_send) (maxL := 2) (ws' := wsX6_send.tail) (by decide) rfl hD (Nat.le_of_ble_eq_true rfl) [(0, .ref (a 0)), (1, .int x1)] rfl RX6 rfl ?_
  intro p e s m args below meth c C hlk hr
  have wl62 : Cond.fieldLink RX6 62 "RewindBoxModel" "sent" "I" ∈ wsX6_send := by decide +kernel
  have wnX6 : ∀ w ∈ u_ws RX6 TX6 23, w ∈ wsX6_send := by decide +kernel
  have wl19 : Cond.fieldLink RX6 19 "RewindBoxModel" "kept" "[I" ∈ wsX6_send := by decide +kernel
  unfold f_X6_send at hf
  refine xr_aload_n C dX6_send_0 0 rfl rfl ?_
  refine xr_get C (ci := 6) (Cn := RX6) (T := TX6) (N := 23) (v := .int (h 0 8)) 0 (by decide) rfl rfl 8 (by decide) wnX6 wl62 rfl rfl dX6_send_1 ?_
  refine xr_bipush C (v := 64) dX6_send_4 (by decide +kernel) ?_
  refine xr_icmp_ge C 19 dX6_send_6 (by decide) (fun cd1 => ?_) (fun cd1 => ?_)
  · rw [if_pos cd1] at hf
    refine xr_aload_n C dX6_send_19 0 rfl rfl ?_
    refine xr_dup C dX6_send_20 rfl ?_
    refine xr_get C (ci := 6) (Cn := RX6) (T := TX6) (N := 23) (v := .int (h 0 8)) 0 (by decide) rfl rfl 8 (by decide) wnX6 wl62 rfl rfl dX6_send_21 ?_
    refine xr_iconst C (v := 1) dX6_send_24 (by decide +kernel) ?_
    refine xr_iadd C dX6_send_25 ?_
    refine xr_put C (ci := 6) (Cn := RX6) (T := TX6) (N := 23) (ty := .int) (v := ((h 0 8) + 1)) 0 (by decide) rfl rfl 8 (by decide) wnX6 wl62 rfl tyX6 tyX6_ok nmX6 rfl (by decide +kernel) rfl rfl (Nat.le_of_ble_eq_true rfl) rfl dX6_send_26 ?_
    cases hf
    exact xr_vret C hlk hr dX6_send_29
  · rw [if_neg cd1] at hf
    refine xr_aload_n C dX6_send_9 0 rfl rfl ?_
    refine xr_get C (ci := 6) (Cn := RX6) (T := TX6) (N := 23) (v := .ref (a 4)) 0 (by decide) rfl rfl 7 (by decide) wnX6 wl19 rfl rfl dX6_send_10 ?_
    refine xr_aload_n C dX6_send_13 0 rfl rfl ?_
    refine xr_get C (ci := 6) (Cn := RX6) (T := TX6) (N := 23) (v := .int (h 0 8)) 0 (by decide) rfl rfl 8 (by decide) wnX6 wl62 rfl rfl dX6_send_14 ?_
    refine xr_iload_n C dX6_send_17 1 rfl rfl ?_
    obtain ⟨gg2, hf⟩ := gd_some hf
    refine xr_iast C 4 (by decide) 0 (fun _ => rfl) rfl gg2 dX6_send_18 ?_
    refine xr_aload_n C dX6_send_19 0 rfl rfl ?_
    refine xr_dup C dX6_send_20 rfl ?_
    refine xr_get C (ci := 6) (Cn := RX6) (T := TX6) (N := 23) (v := .int (h 0 8)) 0 (by decide) rfl rfl 8 (by decide) wnX6 wl62 rfl rfl dX6_send_21 ?_
    refine xr_iconst C (v := 1) dX6_send_24 (by decide +kernel) ?_
    refine xr_iadd C dX6_send_25 ?_
    refine xr_put C (ci := 6) (Cn := RX6) (T := TX6) (N := 23) (ty := .int) (v := ((h 0 8) + 1)) 0 (by decide) rfl rfl 8 (by decide) wnX6 wl62 rfl tyX6 tyX6_ok nmX6 rfl (by decide +kernel) rfl rfl (Nat.le_of_ble_eq_true rfl) rfl dX6_send_26 ?_
    cases hf
    exact xr_vret C hlk hr dX6_send_29
def f_X6_write (h : hp) (x1 : Int32) (x2 : Int32) : Option hp := gd (¬ (x1 < 0 ∨ 512 ≤ x1.toNatClampNeg)) (gd (¬ ((x1 / 16) < 0 ∨ 32 ≤ (x1 / 16).toNatClampNeg)) (some (u2 (u2 h 2 x1.toNatClampNeg x2) 9 (x1 / 16).toNatClampNeg 1)))
abbrev rmX6_write : Room := { frames := 0, cells := 0, slots := 0, locals := 0 }
set_option maxHeartbeats 4000000 in
set_option maxRecDepth 100000 in
theorem c_X6_write (l : Launch) (dC : Nat → ClassId) (dI : Nat → Nat → Nat) (cI cZ : ClassId) (a : Nat → Nat) (hD : xD 11 a) (h : hp) (x1 : Int32) (x2 : Int32) {h9 : hp} (hf : f_X6_write h x1 x2 = some h9) : XMv l yX6_write wsX6_write rmX6_write (dC, dI) vwCl (mty cI cZ) 11 a (mcf cI cZ a) h [.ref (a 0), .int x1, .int x2] h9 := by
  refine xm_v (cc := cX6_write) (maxL := 3) (ws' := wsX6_write.tail) (by decide) rfl hD (Nat.le_of_ble_eq_true rfl) [(0, .ref (a 0)), (1, .int x1), (2, .int x2)] rfl RX6 rfl ?_
  intro p e s m args below meth c C hlk hr
  have wl13 : Cond.fieldLink RX6 13 "RewindBoxModel" "memory" "[I" ∈ wsX6_write := by decide +kernel
  have wnX6 : ∀ w ∈ u_ws RX6 TX6 23, w ∈ wsX6_write := by decide +kernel
  have wl34 : Cond.fieldLink RX6 34 "RewindBoxModel" "written" "[Z" ∈ wsX6_write := by decide +kernel
  unfold f_X6_write at hf
  refine xr_aload_n C dX6_write_0 0 rfl rfl ?_
  refine xr_get C (ci := 6) (Cn := RX6) (T := TX6) (N := 23) (v := .ref (a 2)) 0 (by decide) rfl rfl 2 (by decide) wnX6 wl13 rfl rfl dX6_write_1 ?_
  refine xr_iload_n C dX6_write_4 1 rfl rfl ?_
  refine xr_iload_n C dX6_write_5 2 rfl rfl ?_
  obtain ⟨gg1, hf⟩ := gd_some hf
  refine xr_iast C 2 (by decide) 0 (fun _ => rfl) rfl gg1 dX6_write_6 ?_
  refine xr_aload_n C dX6_write_7 0 rfl rfl ?_
  refine xr_get C (ci := 6) (Cn := RX6) (T := TX6) (N := 23) (v := .ref (a 9)) 0 (by decide) rfl rfl 19 (by decide) wnX6 wl34 rfl rfl dX6_write_8 ?_
  refine xr_iload_n C dX6_write_11 1 rfl rfl ?_
  refine xr_bipush C (v := 16) dX6_write_12 (by decide +kernel) ?_
  refine xr_idiv C dX6_write_14 (by decide) ?_
  refine xr_iconst C (v := 1) dX6_write_15 (by decide +kernel) ?_
  obtain ⟨gg2, hf⟩ := gd_some hf
  refine xr_zast C 9 (by decide) 1 (fun _ => rfl) rfl (by decide +kernel) gg2 dX6_write_16 ?_
  cases hf
  exact xr_vret C hlk hr dX6_write_17
def f_X6_work (h : hp) (x1 : Int32) (x2 : Int32) : Option hp := gl ((x1 >>> (16 &&& 31)) &&& 7) (fun v1 => gd (¬ (((x1 >>> (8 &&& 31)) &&& 7) < 0 ∨ 8 ≤ ((x1 >>> (8 &&& 31)) &&& 7).toNatClampNeg)) (gl (h 3 ((x1 >>> (8 &&& 31)) &&& 7).toNatClampNeg) (fun v3 => gd (¬ ((x1 &&& 7) < 0 ∨ 8 ≤ (x1 &&& 7).toNatClampNeg)) (gl (h 3 (x1 &&& 7).toNatClampNeg) (fun v5 => if ((x1.toUInt32 >>> ((24 : Int32).toUInt32 &&& Int32.toUInt32 31)).toInt32) = 1 then (gd (¬ (v1 < 0 ∨ 8 ≤ v1.toNatClampNeg)) (some (u2 h 3 v1.toNatClampNeg (v3 + v5)))) else (if ((x1.toUInt32 >>> ((24 : Int32).toUInt32 &&& Int32.toUInt32 31)).toInt32) = 2 then (gd (¬ (v1 < 0 ∨ 8 ≤ v1.toNatClampNeg)) (some (u2 h 3 v1.toNatClampNeg (v3 - v5)))) else (if ((x1.toUInt32 >>> ((24 : Int32).toUInt32 &&& Int32.toUInt32 31)).toInt32) = 3 then (gd (¬ (v1 < 0 ∨ 8 ≤ v1.toNatClampNeg)) (some (u2 h 3 v1.toNatClampNeg (v3 * v5)))) else (if ((x1.toUInt32 >>> ((24 : Int32).toUInt32 &&& Int32.toUInt32 31)).toInt32) = 4 then (gd (¬ (v1 < 0 ∨ 8 ≤ v1.toNatClampNeg)) (some (u2 h 3 v1.toNatClampNeg (v3 &&& v5)))) else (if ((x1.toUInt32 >>> ((24 : Int32).toUInt32 &&& Int32.toUInt32 31)).toInt32) = 5 then (gd (¬ (v1 < 0 ∨ 8 ≤ v1.toNatClampNeg)) (some (u2 h 3 v1.toNatClampNeg (v3 ^^^ v5)))) else (if ((x1.toUInt32 >>> ((24 : Int32).toUInt32 &&& Int32.toUInt32 31)).toInt32) = 6 then (gd (¬ (v1 < 0 ∨ 8 ≤ v1.toNatClampNeg)) (some (u2 h 3 v1.toNatClampNeg x1.toInt16.toInt32))) else (if ((x1.toUInt32 >>> ((24 : Int32).toUInt32 &&& Int32.toUInt32 31)).toInt32) = 7 then (bR (f_X6_meant h x1) (fun rr20 => gd (¬ (rr20 < 0 ∨ 512 ≤ rr20.toNatClampNeg)) (gd (¬ (v1 < 0 ∨ 8 ≤ v1.toNatClampNeg)) (some (u2 h 3 v1.toNatClampNeg (h 2 rr20.toNatClampNeg)))))) else (if ((x1.toUInt32 >>> ((24 : Int32).toUInt32 &&& Int32.toUInt32 31)).toInt32) = 8 then (bR (f_X6_meant h x1) (fun rr25 => gd (¬ (v1 < 0 ∨ 8 ≤ v1.toNatClampNeg)) (bV (f_X6_write h rr25 (h 3 v1.toNatClampNeg)) (fun hh28 => some hh28)))) else (if ((x1.toUInt32 >>> ((24 : Int32).toUInt32 &&& Int32.toUInt32 31)).toInt32) = 9 then (some h) else (if ((x1.toUInt32 >>> ((24 : Int32).toUInt32 &&& Int32.toUInt32 31)).toInt32) = 10 then (some h) else (if ((x1.toUInt32 >>> ((24 : Int32).toUInt32 &&& Int32.toUInt32 31)).toInt32) = 11 then (some h) else (if ((x1.toUInt32 >>> ((24 : Int32).toUInt32 &&& Int32.toUInt32 31)).toInt32) = 12 then (gd (¬ (v1 < 0 ∨ 8 ≤ v1.toNatClampNeg)) (some (u2 h 3 v1.toNatClampNeg x2))) else (if ((x1.toUInt32 >>> ((24 : Int32).toUInt32 &&& Int32.toUInt32 31)).toInt32) = 13 then (gd (¬ (v1 < 0 ∨ 8 ≤ v1.toNatClampNeg)) (bV (f_X6_send h (h 3 v1.toNatClampNeg)) (fun hh37 => some hh37))) else (if ((x1.toUInt32 >>> ((24 : Int32).toUInt32 &&& Int32.toUInt32 31)).toInt32) = 14 then (gd (¬ (v1 < 0 ∨ 8 ≤ v1.toNatClampNeg)) (some (u2 h 3 v1.toNatClampNeg (h 0 10)))) else (some h)))))))))))))))))))
abbrev rmX6_work : Room := { frames := 1, cells := 0, slots := 0, locals := 22 }
set_option maxHeartbeats 4000000 in
set_option maxRecDepth 100000 in
theorem c_X6_work (l : Launch) (dC : Nat → ClassId) (dI : Nat → Nat → Nat) (cI cZ : ClassId) (a : Nat → Nat) (hD : xD 11 a) (h : hp) (x1 : Int32) (x2 : Int32) {h9 : hp} (hf : f_X6_work h x1 x2 = some h9) : XMv l yX6_work wsX6_work rmX6_work (dC, dI) vwCl (mty cI cZ) 11 a (mcf cI cZ a) h [.ref (a 0), .int x1, .int x2] h9 := by
  refine xm_v (cc := cX6_work) (maxL := 6) (ws' := wsX6_work.tail) (by decide) rfl hD (Nat.le_of_ble_eq_true rfl) [(0, .ref (a 0)), (1, .int x1), (2, .int x2)] rfl RX6 rfl ?_
  intro p e s m args below meth c C hlk hr
  have wl16 : Cond.fieldLink RX6 16 "RewindBoxModel" "registers" "[I" ∈ wsX6_work := by decide +kernel
  have wnX6 : ∀ w ∈ u_ws RX6 TX6 23, w ∈ wsX6_work := by decide +kernel
  have wl13 : Cond.fieldLink RX6 13 "RewindBoxModel" "memory" "[I" ∈ wsX6_work := by decide +kernel
  have wl65 : Cond.fieldLink RX6 65 "RewindBoxModel" "position" "I" ∈ wsX6_work := by decide +kernel
  unfold f_X6_work at hf
  refine xr_iload_n C dX6_work_0 1 rfl rfl ?_
  refine xr_bipush C (v := 16) dX6_work_1 (by decide +kernel) ?_
  refine xr_ishr C dX6_work_3 ?_
  refine xr_bipush C (v := 7) dX6_work_4 (by decide +kernel) ?_
  refine xr_iand C dX6_work_6 ?_
  refine xr_topi C (fun v1 ev1 => ?_)
  have hf := gl_at hf v1 ev1
  refine xr_istore_n C [(3, .int v1), (0, .ref (a 0)), (1, .int x1), (2, .int x2)] dX6_work_7 rfl (by decide) rfl ?_
  refine xr_aload_n C dX6_work_8 1 rfl rfl ?_
  refine xr_get C (ci := 6) (Cn := RX6) (T := TX6) (N := 23) (v := .ref (a 3)) 0 (by decide) rfl rfl 3 (by decide) wnX6 wl16 rfl rfl dX6_work_9 ?_
  refine xr_iload_n C dX6_work_12 2 rfl rfl ?_
  refine xr_bipush C (v := 8) dX6_work_13 (by decide +kernel) ?_
  refine xr_ishr C dX6_work_15 ?_
  refine xr_bipush C (v := 7) dX6_work_16 (by decide +kernel) ?_
  refine xr_iand C dX6_work_18 ?_
  obtain ⟨gg2, hf⟩ := gd_some hf
  refine xr_iald C (v := h 3 ((x1 >>> (8 &&& 31)) &&& 7).toNatClampNeg) 3 (by decide) 0 rfl rfl gg2 rfl dX6_work_19 ?_
  refine xr_topi C (fun v3 ev3 => ?_)
  have hf := gl_at hf v3 ev3
  refine xr_istore C [(4, .int v3), (3, .int v1), (0, .ref (a 0)), (1, .int x1), (2, .int x2)] dX6_work_20 (by decide) rfl ?_
  refine xr_aload_n C dX6_work_22 2 rfl rfl ?_
  refine xr_get C (ci := 6) (Cn := RX6) (T := TX6) (N := 23) (v := .ref (a 3)) 0 (by decide) rfl rfl 3 (by decide) wnX6 wl16 rfl rfl dX6_work_23 ?_
  refine xr_iload_n C dX6_work_26 3 rfl rfl ?_
  refine xr_bipush C (v := 7) dX6_work_27 (by decide +kernel) ?_
  refine xr_iand C dX6_work_29 ?_
  obtain ⟨gg4, hf⟩ := gd_some hf
  refine xr_iald C (v := h 3 (x1 &&& 7).toNatClampNeg) 3 (by decide) 0 rfl rfl gg4 rfl dX6_work_30 ?_
  refine xr_topi C (fun v5 ev5 => ?_)
  have hf := gl_at hf v5 ev5
  refine xr_istore C [(5, .int v5), (4, .int v3), (3, .int v1), (0, .ref (a 0)), (1, .int x1), (2, .int x2)] dX6_work_31 (by decide) rfl ?_
  refine xr_iload_n C dX6_work_33 4 rfl rfl ?_
  refine xr_bipush C (v := 24) dX6_work_34 (by decide +kernel) ?_
  refine xr_iushr C dX6_work_36 ?_
  by_cases cd6 : ((x1.toUInt32 >>> ((24 : Int32).toUInt32 &&& Int32.toUInt32 31)).toInt32) = 1
  · rw [if_pos cd6] at hf
    refine xr_tableIn C 108 1 dX6_work_37 (by rw [cd6]; decide) (by decide) (by decide) rfl (by decide) ?_
    refine xr_aload_n C dX6_work_108 3 rfl rfl ?_
    refine xr_get C (ci := 6) (Cn := RX6) (T := TX6) (N := 23) (v := .ref (a 3)) 0 (by decide) rfl rfl 3 (by decide) wnX6 wl16 rfl rfl dX6_work_109 ?_
    refine xr_iload_n C dX6_work_112 2 rfl rfl ?_
    refine xr_iload C dX6_work_113 1 rfl ?_
    refine xr_iload C dX6_work_115 0 rfl ?_
    refine xr_iadd C dX6_work_117 ?_
    obtain ⟨gg7, hf⟩ := gd_some hf
    refine xr_iast C 3 (by decide) 0 (fun _ => rfl) rfl gg7 dX6_work_118 ?_
    refine xr_goto C 262 dX6_work_119 (by decide) ?_
    cases hf
    exact xr_vret C hlk hr dX6_work_262
  rw [if_neg cd6] at hf
  by_cases cd8 : ((x1.toUInt32 >>> ((24 : Int32).toUInt32 &&& Int32.toUInt32 31)).toInt32) = 2
  · rw [if_pos cd8] at hf
    refine xr_tableIn C 122 2 dX6_work_37 (by rw [cd8]; decide) (by decide) (by decide) rfl (by decide) ?_
    refine xr_aload_n C dX6_work_122 3 rfl rfl ?_
    refine xr_get C (ci := 6) (Cn := RX6) (T := TX6) (N := 23) (v := .ref (a 3)) 0 (by decide) rfl rfl 3 (by decide) wnX6 wl16 rfl rfl dX6_work_123 ?_
    refine xr_iload_n C dX6_work_126 2 rfl rfl ?_
    refine xr_iload C dX6_work_127 1 rfl ?_
    refine xr_iload C dX6_work_129 0 rfl ?_
    refine xr_isub C dX6_work_131 ?_
    obtain ⟨gg9, hf⟩ := gd_some hf
    refine xr_iast C 3 (by decide) 0 (fun _ => rfl) rfl gg9 dX6_work_132 ?_
    refine xr_goto C 262 dX6_work_133 (by decide) ?_
    cases hf
    exact xr_vret C hlk hr dX6_work_262
  rw [if_neg cd8] at hf
  by_cases cd10 : ((x1.toUInt32 >>> ((24 : Int32).toUInt32 &&& Int32.toUInt32 31)).toInt32) = 3
  · rw [if_pos cd10] at hf
    refine xr_tableIn C 136 3 dX6_work_37 (by rw [cd10]; decide) (by decide) (by decide) rfl (by decide) ?_
    refine xr_aload_n C dX6_work_136 3 rfl rfl ?_
    refine xr_get C (ci := 6) (Cn := RX6) (T := TX6) (N := 23) (v := .ref (a 3)) 0 (by decide) rfl rfl 3 (by decide) wnX6 wl16 rfl rfl dX6_work_137 ?_
    refine xr_iload_n C dX6_work_140 2 rfl rfl ?_
    refine xr_iload C dX6_work_141 1 rfl ?_
    refine xr_iload C dX6_work_143 0 rfl ?_
    refine xr_imul C dX6_work_145 ?_
    obtain ⟨gg11, hf⟩ := gd_some hf
    refine xr_iast C 3 (by decide) 0 (fun _ => rfl) rfl gg11 dX6_work_146 ?_
    refine xr_goto C 262 dX6_work_147 (by decide) ?_
    cases hf
    exact xr_vret C hlk hr dX6_work_262
  rw [if_neg cd10] at hf
  by_cases cd12 : ((x1.toUInt32 >>> ((24 : Int32).toUInt32 &&& Int32.toUInt32 31)).toInt32) = 4
  · rw [if_pos cd12] at hf
    refine xr_tableIn C 150 4 dX6_work_37 (by rw [cd12]; decide) (by decide) (by decide) rfl (by decide) ?_
    refine xr_aload_n C dX6_work_150 3 rfl rfl ?_
    refine xr_get C (ci := 6) (Cn := RX6) (T := TX6) (N := 23) (v := .ref (a 3)) 0 (by decide) rfl rfl 3 (by decide) wnX6 wl16 rfl rfl dX6_work_151 ?_
    refine xr_iload_n C dX6_work_154 2 rfl rfl ?_
    refine xr_iload C dX6_work_155 1 rfl ?_
    refine xr_iload C dX6_work_157 0 rfl ?_
    refine xr_iand C dX6_work_159 ?_
    obtain ⟨gg13, hf⟩ := gd_some hf
    refine xr_iast C 3 (by decide) 0 (fun _ => rfl) rfl gg13 dX6_work_160 ?_
    refine xr_goto C 262 dX6_work_161 (by decide) ?_
    cases hf
    exact xr_vret C hlk hr dX6_work_262
  rw [if_neg cd12] at hf
  by_cases cd14 : ((x1.toUInt32 >>> ((24 : Int32).toUInt32 &&& Int32.toUInt32 31)).toInt32) = 5
  · rw [if_pos cd14] at hf
    refine xr_tableIn C 164 5 dX6_work_37 (by rw [cd14]; decide) (by decide) (by decide) rfl (by decide) ?_
    refine xr_aload_n C dX6_work_164 3 rfl rfl ?_
    refine xr_get C (ci := 6) (Cn := RX6) (T := TX6) (N := 23) (v := .ref (a 3)) 0 (by decide) rfl rfl 3 (by decide) wnX6 wl16 rfl rfl dX6_work_165 ?_
    refine xr_iload_n C dX6_work_168 2 rfl rfl ?_
    refine xr_iload C dX6_work_169 1 rfl ?_
    refine xr_iload C dX6_work_171 0 rfl ?_
    refine xr_ixor C dX6_work_173 ?_
    obtain ⟨gg15, hf⟩ := gd_some hf
    refine xr_iast C 3 (by decide) 0 (fun _ => rfl) rfl gg15 dX6_work_174 ?_
    refine xr_goto C 262 dX6_work_175 (by decide) ?_
    cases hf
    exact xr_vret C hlk hr dX6_work_262
  rw [if_neg cd14] at hf
  by_cases cd16 : ((x1.toUInt32 >>> ((24 : Int32).toUInt32 &&& Int32.toUInt32 31)).toInt32) = 6
  · rw [if_pos cd16] at hf
    refine xr_tableIn C 178 6 dX6_work_37 (by rw [cd16]; decide) (by decide) (by decide) rfl (by decide) ?_
    refine xr_aload_n C dX6_work_178 3 rfl rfl ?_
    refine xr_get C (ci := 6) (Cn := RX6) (T := TX6) (N := 23) (v := .ref (a 3)) 0 (by decide) rfl rfl 3 (by decide) wnX6 wl16 rfl rfl dX6_work_179 ?_
    refine xr_iload_n C dX6_work_182 2 rfl rfl ?_
    refine xr_iload_n C dX6_work_183 4 rfl rfl ?_
    refine xr_i2s C dX6_work_184 ?_
    obtain ⟨gg17, hf⟩ := gd_some hf
    refine xr_iast C 3 (by decide) 0 (fun _ => rfl) rfl gg17 dX6_work_185 ?_
    refine xr_goto C 262 dX6_work_186 (by decide) ?_
    cases hf
    exact xr_vret C hlk hr dX6_work_262
  rw [if_neg cd16] at hf
  by_cases cd18 : ((x1.toUInt32 >>> ((24 : Int32).toUInt32 &&& Int32.toUInt32 31)).toInt32) = 7
  · rw [if_pos cd18] at hf
    refine xr_tableIn C 189 7 dX6_work_37 (by rw [cd18]; decide) (by decide) (by decide) rfl (by decide) ?_
    refine xr_aload_n C dX6_work_189 3 rfl rfl ?_
    refine xr_get C (ci := 6) (Cn := RX6) (T := TX6) (N := 23) (v := .ref (a 3)) 0 (by decide) rfl rfl 3 (by decide) wnX6 wl16 rfl rfl dX6_work_190 ?_
    refine xr_iload_n C dX6_work_193 2 rfl rfl ?_
    refine xr_aload_n C dX6_work_194 3 rfl rfl ?_
    refine xr_get C (ci := 6) (Cn := RX6) (T := TX6) (N := 23) (v := .ref (a 2)) 0 (by decide) rfl rfl 2 (by decide) wnX6 wl13 rfl rfl dX6_work_195 ?_
    refine xr_aload_n C dX6_work_198 3 rfl rfl ?_
    refine xr_iload_n C dX6_work_199 4 rfl rfl ?_
    obtain ⟨rr20, ee19, hf⟩ := bR_some hf
    refine xr_callVi C (Cn := RX6) 0 (by decide) rfl rfl [.int x1] [.ref (a 2), .int v1, .ref (a 3)] (c_X6_meant l dC dI cI cZ a hD h x1 ee19) (cwV 1 C.2.2.1 gX6_work_X6_meant rfl rfl rfl (by decide +kernel) ⟨Nat.le_of_ble_eq_true rfl, Nat.le_of_ble_eq_true rfl⟩) rfl rfl (Nat.le_of_ble_eq_true rfl) dX6_work_200 ?_
    obtain ⟨gg21, hf⟩ := gd_some hf
    refine xr_iald C (v := h 2 rr20.toNatClampNeg) 2 (by decide) 0 rfl rfl gg21 rfl dX6_work_203 ?_
    obtain ⟨gg22, hf⟩ := gd_some hf
    refine xr_iast C 3 (by decide) 0 (fun _ => rfl) rfl gg22 dX6_work_204 ?_
    refine xr_goto C 262 dX6_work_205 (by decide) ?_
    cases hf
    exact xr_vret C hlk hr dX6_work_262
  rw [if_neg cd18] at hf
  by_cases cd23 : ((x1.toUInt32 >>> ((24 : Int32).toUInt32 &&& Int32.toUInt32 31)).toInt32) = 8
  · rw [if_pos cd23] at hf
    refine xr_tableIn C 208 8 dX6_work_37 (by rw [cd23]; decide) (by decide) (by decide) rfl (by decide) ?_
    refine xr_aload_n C dX6_work_208 3 rfl rfl ?_
    refine xr_aload_n C dX6_work_209 3 rfl rfl ?_
    refine xr_iload_n C dX6_work_210 4 rfl rfl ?_
    obtain ⟨rr25, ee24, hf⟩ := bR_some hf
    refine xr_callVi C (Cn := RX6) 0 (by decide) rfl rfl [.int x1] [.ref (a 0)] (c_X6_meant l dC dI cI cZ a hD h x1 ee24) (cwV 1 C.2.2.1 gX6_work_X6_meant rfl rfl rfl (by decide +kernel) ⟨Nat.le_of_ble_eq_true rfl, Nat.le_of_ble_eq_true rfl⟩) rfl rfl (Nat.le_of_ble_eq_true rfl) dX6_work_211 ?_
    refine xr_aload_n C dX6_work_214 3 rfl rfl ?_
    refine xr_get C (ci := 6) (Cn := RX6) (T := TX6) (N := 23) (v := .ref (a 3)) 0 (by decide) rfl rfl 3 (by decide) wnX6 wl16 rfl rfl dX6_work_215 ?_
    refine xr_iload_n C dX6_work_218 2 rfl rfl ?_
    obtain ⟨gg26, hf⟩ := gd_some hf
    refine xr_iald C (v := h 3 v1.toNatClampNeg) 3 (by decide) 0 rfl rfl gg26 rfl dX6_work_219 ?_
    obtain ⟨hh28, ee27, hf⟩ := bV_some hf
    refine xr_callVv C (Cn := RX6) 0 (by decide) rfl rfl [.int rr25, .int (h 3 v1.toNatClampNeg)] [] (c_X6_write l dC dI cI cZ a hD h rr25 (h 3 v1.toNatClampNeg) ee27) (cwV 2 C.2.2.1 gX6_work_X6_write rfl rfl rfl (by decide +kernel) ⟨Nat.le_of_ble_eq_true rfl, Nat.le_of_ble_eq_true rfl⟩) rfl rfl (Nat.le_of_ble_eq_true rfl) dX6_work_220 ?_
    refine xr_goto C 262 dX6_work_223 (by decide) ?_
    cases hf
    exact xr_vret C hlk hr dX6_work_262
  rw [if_neg cd23] at hf
  by_cases cd29 : ((x1.toUInt32 >>> ((24 : Int32).toUInt32 &&& Int32.toUInt32 31)).toInt32) = 9
  · rw [if_pos cd29] at hf
    refine xr_tableIn C 262 9 dX6_work_37 (by rw [cd29]; decide) (by decide) (by decide) rfl (by decide) ?_
    cases hf
    exact xr_vret C hlk hr dX6_work_262
  rw [if_neg cd29] at hf
  by_cases cd30 : ((x1.toUInt32 >>> ((24 : Int32).toUInt32 &&& Int32.toUInt32 31)).toInt32) = 10
  · rw [if_pos cd30] at hf
    refine xr_tableIn C 262 10 dX6_work_37 (by rw [cd30]; decide) (by decide) (by decide) rfl (by decide) ?_
    cases hf
    exact xr_vret C hlk hr dX6_work_262
  rw [if_neg cd30] at hf
  by_cases cd31 : ((x1.toUInt32 >>> ((24 : Int32).toUInt32 &&& Int32.toUInt32 31)).toInt32) = 11
  · rw [if_pos cd31] at hf
    refine xr_tableIn C 262 11 dX6_work_37 (by rw [cd31]; decide) (by decide) (by decide) rfl (by decide) ?_
    cases hf
    exact xr_vret C hlk hr dX6_work_262
  rw [if_neg cd31] at hf
  by_cases cd32 : ((x1.toUInt32 >>> ((24 : Int32).toUInt32 &&& Int32.toUInt32 31)).toInt32) = 12
  · rw [if_pos cd32] at hf
    refine xr_tableIn C 226 12 dX6_work_37 (by rw [cd32]; decide) (by decide) (by decide) rfl (by decide) ?_
    refine xr_aload_n C dX6_work_226 3 rfl rfl ?_
    refine xr_get C (ci := 6) (Cn := RX6) (T := TX6) (N := 23) (v := .ref (a 3)) 0 (by decide) rfl rfl 3 (by decide) wnX6 wl16 rfl rfl dX6_work_227 ?_
    refine xr_iload_n C dX6_work_230 2 rfl rfl ?_
    refine xr_iload_n C dX6_work_231 5 rfl rfl ?_
    obtain ⟨gg33, hf⟩ := gd_some hf
    refine xr_iast C 3 (by decide) 0 (fun _ => rfl) rfl gg33 dX6_work_232 ?_
    refine xr_goto C 262 dX6_work_233 (by decide) ?_
    cases hf
    exact xr_vret C hlk hr dX6_work_262
  rw [if_neg cd32] at hf
  by_cases cd34 : ((x1.toUInt32 >>> ((24 : Int32).toUInt32 &&& Int32.toUInt32 31)).toInt32) = 13
  · rw [if_pos cd34] at hf
    refine xr_tableIn C 236 13 dX6_work_37 (by rw [cd34]; decide) (by decide) (by decide) rfl (by decide) ?_
    refine xr_aload_n C dX6_work_236 3 rfl rfl ?_
    refine xr_aload_n C dX6_work_237 3 rfl rfl ?_
    refine xr_get C (ci := 6) (Cn := RX6) (T := TX6) (N := 23) (v := .ref (a 3)) 0 (by decide) rfl rfl 3 (by decide) wnX6 wl16 rfl rfl dX6_work_238 ?_
    refine xr_iload_n C dX6_work_241 2 rfl rfl ?_
    obtain ⟨gg35, hf⟩ := gd_some hf
    refine xr_iald C (v := h 3 v1.toNatClampNeg) 3 (by decide) 0 rfl rfl gg35 rfl dX6_work_242 ?_
    obtain ⟨hh37, ee36, hf⟩ := bV_some hf
    refine xr_callVv C (Cn := RX6) 0 (by decide) rfl rfl [.int (h 3 v1.toNatClampNeg)] [] (c_X6_send l dC dI cI cZ a hD h (h 3 v1.toNatClampNeg) ee36) (cwV 1 C.2.2.1 gX6_work_X6_send rfl rfl rfl (by decide +kernel) ⟨Nat.le_of_ble_eq_true rfl, Nat.le_of_ble_eq_true rfl⟩) rfl rfl (Nat.le_of_ble_eq_true rfl) dX6_work_243 ?_
    refine xr_goto C 262 dX6_work_246 (by decide) ?_
    cases hf
    exact xr_vret C hlk hr dX6_work_262
  rw [if_neg cd34] at hf
  by_cases cd38 : ((x1.toUInt32 >>> ((24 : Int32).toUInt32 &&& Int32.toUInt32 31)).toInt32) = 14
  · rw [if_pos cd38] at hf
    refine xr_tableIn C 249 14 dX6_work_37 (by rw [cd38]; decide) (by decide) (by decide) rfl (by decide) ?_
    refine xr_aload_n C dX6_work_249 3 rfl rfl ?_
    refine xr_get C (ci := 6) (Cn := RX6) (T := TX6) (N := 23) (v := .ref (a 3)) 0 (by decide) rfl rfl 3 (by decide) wnX6 wl16 rfl rfl dX6_work_250 ?_
    refine xr_iload_n C dX6_work_253 2 rfl rfl ?_
    refine xr_aload_n C dX6_work_254 3 rfl rfl ?_
    refine xr_get C (ci := 6) (Cn := RX6) (T := TX6) (N := 23) (v := .int (h 0 10)) 0 (by decide) rfl rfl 10 (by decide) wnX6 wl65 rfl rfl dX6_work_255 ?_
    obtain ⟨gg39, hf⟩ := gd_some hf
    refine xr_iast C 3 (by decide) 0 (fun _ => rfl) rfl gg39 dX6_work_258 ?_
    refine xr_goto C 262 dX6_work_259 (by decide) ?_
    cases hf
    exact xr_vret C hlk hr dX6_work_262
  rw [if_neg cd38] at hf
  refine xr_tableOut C 262 dX6_work_37 (by have qcd6 := lv_neT cd6 (show Int32.toInt 1 = 1 from by decide); have qcd8 := lv_neT cd8 (show Int32.toInt 2 = 2 from by decide); have qcd10 := lv_neT cd10 (show Int32.toInt 3 = 3 from by decide); have qcd12 := lv_neT cd12 (show Int32.toInt 4 = 4 from by decide); have qcd14 := lv_neT cd14 (show Int32.toInt 5 = 5 from by decide); have qcd16 := lv_neT cd16 (show Int32.toInt 6 = 6 from by decide); have qcd18 := lv_neT cd18 (show Int32.toInt 7 = 7 from by decide); have qcd23 := lv_neT cd23 (show Int32.toInt 8 = 8 from by decide); have qcd29 := lv_neT cd29 (show Int32.toInt 9 = 9 from by decide); have qcd30 := lv_neT cd30 (show Int32.toInt 10 = 10 from by decide); have qcd31 := lv_neT cd31 (show Int32.toInt 11 = 11 from by decide); have qcd32 := lv_neT cd32 (show Int32.toInt 12 = 12 from by decide); have qcd34 := lv_neT cd34 (show Int32.toInt 13 = 13 from by decide); have qcd38 := lv_neT cd38 (show Int32.toInt 14 = 14 from by decide); omega) (by decide) ?_
  cases hf
  exact xr_vret C hlk hr dX6_work_262
