def f_X5_advance_27 (h : hp)  : Option hp := if ((h 0 7) + 1) ≤ h 0 8 then (gd (¬ (h 0 0) = 0) (if (((h 0 7) + 1) - ((h 0 7) + 1) / (h 0 0) * (h 0 0)) = 0 then (some (u2 (u2 h 0 7 ((h 0 7) + 1)) 1 7 0)) else (some (u2 h 0 7 ((h 0 7) + 1))))) else (gd (¬ (h 0 0) = 0) (if (((h 0 7) + 1) - ((h 0 7) + 1) / (h 0 0) * (h 0 0)) = 0 then (bV (f_X4_add (u2 (u2 h 0 7 ((h 0 7) + 1)) 0 8 ((h 0 7) + 1))) (fun hh10 => some (u2 hh10 1 7 0))) else (some (u2 (u2 h 0 7 ((h 0 7) + 1)) 0 8 ((h 0 7) + 1)))))
def f_X5_advance (h : hp) (x1 : Int32) (x2 : Int32) : Option hp := if x1 = 2 then (bV (f_X2_takeRing h) (fun hh12 => f_X5_advance_27 hh12 )) else (bV (f_X2_perform h (h 0 7) x2) (fun hh3 => f_X5_advance_27 hh3 ))
abbrev rmX5_advance : Room := { frames := 3, cells := 0, slots := 0, locals := 68 }
set_option maxHeartbeats 4000000 in
set_option maxRecDepth 100000 in
theorem c_X5_advance (l : Launch) (dC : Nat → ClassId) (dI : Nat → Nat → Nat) (cI cS : ClassId) (a : Nat → Nat) (hD : xD 95 a) (h : hp) (x1 : Int32) (x2 : Int32) {h9 : hp} (hf : f_X5_advance h x1 x2 = some h9) : XMv l yX5_advance wsX5_advance rmX5_advance (dC, dI) vwCl (kty cI cS) 95 a (kcf cI cS a) h [.ref (a 0), .int x1, .int x2] h9 := by
  refine xm_v (cc := cX5_advance) (maxL := 4) (ws' := wsX5_advance.tail) (by decide) rfl hD (Nat.le_of_ble_eq_true rfl) [(0, .ref (a 0)), (1, .int x1), (2, .int x2)] rfl RX5 rfl ?_
  intro p e s m args below meth c C hlk hr
  have wl25 : Cond.fieldLink RX5 25 "RewindBox" "machine" "LRewindBox$Machine;" ∈ wsX5_advance := by decide +kernel
  have wnX5 : ∀ w ∈ u_ws RX5 TX5 9, w ∈ wsX5_advance := by decide +kernel
  have wl78 : Cond.fieldLink RX5 78 "RewindBox" "now" "I" ∈ wsX5_advance := by decide +kernel
  have wl81 : Cond.fieldLink RX5 81 "RewindBox" "end" "I" ∈ wsX5_advance := by decide +kernel
  have wl18 : Cond.fieldLink RX5 18 "RewindBox" "interval" "I" ∈ wsX5_advance := by decide +kernel
  have wl163 : Cond.fieldLink RX5 163 "RewindBox$Machine" "written" "I" ∈ wsX5_advance := by decide +kernel
  have wnX2 : ∀ w ∈ u_ws RX2 TX2 8, w ∈ wsX5_advance := by decide +kernel
  have wl46 : Cond.fieldLink RX5 46 "RewindBox" "snapshots" "LRewindBox$Snapshots;" ∈ wsX5_advance := by decide +kernel
  have lab27 : ∀ (h : hp)  , f_X5_advance_27 h  = some h9 → XJ p l e rmX5_advance s m args below meth c (dC, dI) vwCl 95 a (kcf cI cS a) 4 (MQ below (XQv (dC, dI) vwCl 95 a (kcf cI cS a) h9) args s 0 0 (xA 95 a)) h [(0, .ref (a 0))] [] 27 := by
    intro h   hf
    unfold f_X5_advance_27 at hf
    refine xr_aload_n C dX5_advance_27 0 rfl rfl ?_
    refine xr_dup C dX5_advance_28 rfl ?_
    refine xr_get C (ci := 5) (Cn := RX5) (T := TX5) (N := 9) (v := .int (h 0 7)) 0 (by decide) rfl rfl 7 (by decide) wnX5 wl78 rfl rfl dX5_advance_29 ?_
    refine xr_iconst C (v := 1) dX5_advance_32 (by decide +kernel) ?_
    refine xr_iadd C dX5_advance_33 ?_
    refine xr_put C (ci := 5) (Cn := RX5) (T := TX5) (N := 9) (ty := .int) (v := ((h 0 7) + 1)) 0 (by decide) rfl rfl 7 (by decide) wnX5 wl78 rfl tyX5 tyX5_ok nmX5 rfl (by decide +kernel) rfl rfl (Nat.le_of_ble_eq_true rfl) rfl dX5_advance_34 ?_
    refine xr_aload_n C dX5_advance_37 0 rfl rfl ?_
    refine xr_get C (ci := 5) (Cn := RX5) (T := TX5) (N := 9) (v := .int ((h 0 7) + 1)) 0 (by decide) rfl rfl 7 (by decide) wnX5 wl78 rfl rfl dX5_advance_38 ?_
    refine xr_aload_n C dX5_advance_41 0 rfl rfl ?_
    refine xr_get C (ci := 5) (Cn := RX5) (T := TX5) (N := 9) (v := .int (h 0 8)) 0 (by decide) rfl rfl 8 (by decide) wnX5 wl81 rfl rfl dX5_advance_42 ?_
    refine xr_icmp_le C 52 dX5_advance_45 (by decide) (fun cd4 => ?_) (fun cd4 => ?_)
    · rw [if_pos cd4] at hf
      refine xr_iconst C (v := 0) dX5_advance_52 (by decide +kernel) ?_
      refine xr_istore_n C [(3, .int 0), (0, .ref (a 0))] dX5_advance_53 rfl (by decide) rfl ?_
      refine xr_iload_n C dX5_advance_54 0 rfl rfl ?_
      refine xr_if_eq C 66 dX5_advance_55 (by decide) (fun c9 => ?_) (fun c9 => absurd c9 (by decide))
      refine xr_aload_n C dX5_advance_66 1 rfl rfl ?_
      refine xr_get C (ci := 5) (Cn := RX5) (T := TX5) (N := 9) (v := .int ((h 0 7) + 1)) 0 (by decide) rfl rfl 7 (by decide) wnX5 wl78 rfl rfl dX5_advance_67 ?_
      refine xr_aload_n C dX5_advance_70 1 rfl rfl ?_
      refine xr_get C (ci := 5) (Cn := RX5) (T := TX5) (N := 9) (v := .int (h 0 0)) 0 (by decide) rfl rfl 0 (by decide) wnX5 wl18 rfl rfl dX5_advance_71 ?_
      obtain ⟨gg5, hf⟩ := gd_some hf
      refine xr_irem C dX5_advance_74 gg5 ?_
      refine xr_if_ne C 101 dX5_advance_75 (by decide) (fun cd6 => ?_) (fun cd6 => ?_)
      · rw [if_neg cd6] at hf
        cases hf
        exact xr_vret C hlk hr dX5_advance_101
      · rw [if_pos cd6] at hf
        refine xr_iload_n C dX5_advance_78 0 rfl rfl ?_
        refine xr_if_eq C 93 dX5_advance_79 (by decide) (fun c9 => ?_) (fun c9 => absurd c9 (by decide))
        refine xr_aload_n C dX5_advance_93 1 rfl rfl ?_
        refine xr_get C (ci := 5) (Cn := RX5) (T := TX5) (N := 9) (v := .ref (a 1)) 0 (by decide) rfl rfl 1 (by decide) wnX5 wl25 rfl rfl dX5_advance_94 ?_
        refine xr_iconst C (v := 0) dX5_advance_97 (by decide +kernel) ?_
        refine xr_put C (ci := 2) (Cn := RX2) (T := TX2) (N := 8) (ty := .int) (v := 0) 1 (by decide) rfl rfl 7 (by decide) wnX2 wl163 rfl tyX2 tyX2_ok nmX2 rfl (by decide +kernel) rfl rfl (Nat.le_of_ble_eq_true rfl) rfl dX5_advance_98 ?_
        cases hf
        exact xr_vret C hlk hr dX5_advance_101
    · rw [if_neg cd4] at hf
      refine xr_iconst C (v := 1) dX5_advance_48 (by decide +kernel) ?_
      refine xr_goto C 53 dX5_advance_49 (by decide) ?_
      refine xr_istore_n C [(3, .int 1), (0, .ref (a 0))] dX5_advance_53 rfl (by decide) rfl ?_
      refine xr_iload_n C dX5_advance_54 0 rfl rfl ?_
      refine xr_if_eq C 66 dX5_advance_55 (by decide) (fun c9 => absurd c9 (by decide)) (fun c9 => ?_)
      refine xr_aload_n C dX5_advance_58 1 rfl rfl ?_
      refine xr_aload_n C dX5_advance_59 1 rfl rfl ?_
      refine xr_get C (ci := 5) (Cn := RX5) (T := TX5) (N := 9) (v := .int ((h 0 7) + 1)) 0 (by decide) rfl rfl 7 (by decide) wnX5 wl78 rfl rfl dX5_advance_60 ?_
      refine xr_put C (ci := 5) (Cn := RX5) (T := TX5) (N := 9) (ty := .int) (v := ((h 0 7) + 1)) 0 (by decide) rfl rfl 8 (by decide) wnX5 wl81 rfl tyX5 tyX5_ok nmX5 rfl (by decide +kernel) rfl rfl (Nat.le_of_ble_eq_true rfl) rfl dX5_advance_63 ?_
      refine xr_aload_n C dX5_advance_66 1 rfl rfl ?_
      refine xr_get C (ci := 5) (Cn := RX5) (T := TX5) (N := 9) (v := .int ((h 0 7) + 1)) 0 (by decide) rfl rfl 7 (by decide) wnX5 wl78 rfl rfl dX5_advance_67 ?_
      refine xr_aload_n C dX5_advance_70 1 rfl rfl ?_
      refine xr_get C (ci := 5) (Cn := RX5) (T := TX5) (N := 9) (v := .int (h 0 0)) 0 (by decide) rfl rfl 0 (by decide) wnX5 wl18 rfl rfl dX5_advance_71 ?_
      obtain ⟨gg7, hf⟩ := gd_some hf
      refine xr_irem C dX5_advance_74 gg7 ?_
      refine xr_if_ne C 101 dX5_advance_75 (by decide) (fun cd8 => ?_) (fun cd8 => ?_)
      · rw [if_neg cd8] at hf
        cases hf
        exact xr_vret C hlk hr dX5_advance_101
      · rw [if_pos cd8] at hf
        refine xr_iload_n C dX5_advance_78 0 rfl rfl ?_
        refine xr_if_eq C 93 dX5_advance_79 (by decide) (fun c9 => absurd c9 (by decide)) (fun c9 => ?_)
        refine xr_aload_n C dX5_advance_82 1 rfl rfl ?_
        refine xr_get C (ci := 5) (Cn := RX5) (T := TX5) (N := 9) (v := .ref (a 11)) 0 (by decide) rfl rfl 4 (by decide) wnX5 wl46 rfl rfl dX5_advance_83 ?_
        refine xr_aload_n C dX5_advance_86 1 rfl rfl ?_
        refine xr_get C (ci := 5) (Cn := RX5) (T := TX5) (N := 9) (v := .ref (a 1)) 0 (by decide) rfl rfl 1 (by decide) wnX5 wl25 rfl rfl dX5_advance_87 ?_
        obtain ⟨hh10, ee9, hf⟩ := bV_some hf
        refine xr_callVv C (Cn := RX4) 11 (by decide) rfl rfl [.ref (a 1)] [] (c_X4_add l dC dI cI cS a hD (u2 (u2 h 0 7 ((h 0 7) + 1)) 0 8 ((h 0 7) + 1)) ee9) (cwV 1 C.2.2.1 gX5_advance_X4_add rfl rfl rfl (by decide +kernel) ⟨Nat.le_of_ble_eq_true rfl, Nat.le_of_ble_eq_true rfl⟩) rfl rfl (Nat.le_of_ble_eq_true rfl) dX5_advance_90 ?_
        refine xr_aload_n C dX5_advance_93 1 rfl rfl ?_
        refine xr_get C (ci := 5) (Cn := RX5) (T := TX5) (N := 9) (v := .ref (a 1)) 0 (by decide) rfl rfl 1 (by decide) wnX5 wl25 rfl rfl dX5_advance_94 ?_
        refine xr_iconst C (v := 0) dX5_advance_97 (by decide +kernel) ?_
        refine xr_put C (ci := 2) (Cn := RX2) (T := TX2) (N := 8) (ty := .int) (v := 0) 1 (by decide) rfl rfl 7 (by decide) wnX2 wl163 rfl tyX2 tyX2_ok nmX2 rfl (by decide +kernel) rfl rfl (Nat.le_of_ble_eq_true rfl) rfl dX5_advance_98 ?_
        cases hf
        exact xr_vret C hlk hr dX5_advance_101
  unfold f_X5_advance at hf
  refine xr_iload_n C dX5_advance_0 1 rfl rfl ?_
  refine xr_iconst C (v := 2) dX5_advance_1 (by decide +kernel) ?_
  refine xr_icmp_ne C 15 dX5_advance_2 (by decide) (fun cd1 => ?_) (fun cd1 => ?_)
  · rw [if_neg cd1] at hf
    refine xr_aload_n C dX5_advance_15 0 rfl rfl ?_
    refine xr_get C (ci := 5) (Cn := RX5) (T := TX5) (N := 9) (v := .ref (a 1)) 0 (by decide) rfl rfl 1 (by decide) wnX5 wl25 rfl rfl dX5_advance_16 ?_
    refine xr_aload_n C dX5_advance_19 0 rfl rfl ?_
    refine xr_get C (ci := 5) (Cn := RX5) (T := TX5) (N := 9) (v := .int (h 0 7)) 0 (by decide) rfl rfl 7 (by decide) wnX5 wl78 rfl rfl dX5_advance_20 ?_
    refine xr_iload_n C dX5_advance_23 2 rfl rfl ?_
    obtain ⟨hh3, ee2, hf⟩ := bV_some hf
    refine xr_callVv C (Cn := RX2) 1 (by decide) rfl rfl [.int (h 0 7), .int x2] [] (c_X2_perform l dC dI cI cS a hD h (h 0 7) x2 ee2) (cwV 2 C.2.2.1 gX5_advance_X2_perform rfl rfl rfl (by decide +kernel) ⟨Nat.le_of_ble_eq_true rfl, Nat.le_of_ble_eq_true rfl⟩) rfl rfl (Nat.le_of_ble_eq_true rfl) dX5_advance_24 ?_
    exact xr_sub C [0] rfl (lab27 hh3   hf)
  · rw [if_pos cd1] at hf
    refine xr_aload_n C dX5_advance_5 0 rfl rfl ?_
    refine xr_get C (ci := 5) (Cn := RX5) (T := TX5) (N := 9) (v := .ref (a 1)) 0 (by decide) rfl rfl 1 (by decide) wnX5 wl25 rfl rfl dX5_advance_6 ?_
    obtain ⟨hh12, ee11, hf⟩ := bV_some hf
    refine xr_callVv C (Cn := RX2) 1 (by decide) rfl rfl [] [] (c_X2_takeRing l dC dI cI cS a hD h ee11) (cwV 0 C.2.2.1 gX5_advance_X2_takeRing rfl rfl rfl (by decide +kernel) ⟨Nat.le_of_ble_eq_true rfl, Nat.le_of_ble_eq_true rfl⟩) rfl rfl (Nat.le_of_ble_eq_true rfl) dX5_advance_9 ?_
    refine xr_goto C 27 dX5_advance_12 (by decide) ?_
    exact xr_sub C [0] rfl (lab27 hh12   hf)
def f_X5_stepLive_45 (h : hp) (x1 : Int32) (x2 : Int32) : Option hp := bV (f_X5_advance h x1 x2) (fun hh5 => some hh5)
def f_X5_stepLive_28 (h : hp) (x1 : Int32) (x2 : Int32) : Option hp := if x1 = 0 then (f_X5_stepLive_45 h x1 x2) else (bV (f_X1_add h (h 0 7) x1 x2) (fun hh7 => f_X5_stepLive_45 hh7 x1 x2))
def f_X5_stepLive (h : hp) (x1 : Int32) : Option hp := if x1 = 2 then (f_X5_stepLive_28 (u2 h 0 6 0) x1 0) else (if x1 = 1 then (bM (f_X0_take h) (fun rr9 hh10 => f_X5_stepLive_28 hh10 x1 rr9)) else (f_X5_stepLive_28 h x1 0))
abbrev rmX5_stepLive : Room := { frames := 4, cells := 0, slots := 0, locals := 91 }
set_option maxHeartbeats 4000000 in
set_option maxRecDepth 100000 in
theorem c_X5_stepLive (l : Launch) (dC : Nat → ClassId) (dI : Nat → Nat → Nat) (cI cS : ClassId) (a : Nat → Nat) (hD : xD 95 a) (h : hp) (x1 : Int32) {h9 : hp} (hf : f_X5_stepLive h x1 = some h9) : XMv l yX5_stepLive wsX5_stepLive rmX5_stepLive (dC, dI) vwCl (kty cI cS) 95 a (kcf cI cS a) h [.ref (a 0), .int x1] h9 := by
  refine xm_v (cc := cX5_stepLive) (maxL := 3) (ws' := wsX5_stepLive.tail) (by decide) rfl hD (Nat.le_of_ble_eq_true rfl) [(0, .ref (a 0)), (1, .int x1)] rfl RX5 rfl ?_
  intro p e s m args below meth c C hlk hr
  have wl39 : Cond.fieldLink RX5 39 "RewindBox" "entries" "LRewindBox$Log;" ∈ wsX5_stepLive := by decide +kernel
  have wnX5 : ∀ w ∈ u_ws RX5 TX5 9, w ∈ wsX5_stepLive := by decide +kernel
  have wl78 : Cond.fieldLink RX5 78 "RewindBox" "now" "I" ∈ wsX5_stepLive := by decide +kernel
  have wl32 : Cond.fieldLink RX5 32 "RewindBox" "inputs" "LRewindBox$Inputs;" ∈ wsX5_stepLive := by decide +kernel
  have wl75 : Cond.fieldLink RX5 75 "RewindBox" "ringCame" "Z" ∈ wsX5_stepLive := by decide +kernel
  have lab45 : ∀ (h : hp) (x1 : Int32) (x2 : Int32) , f_X5_stepLive_45 h x1 x2 = some h9 → XJ p l e rmX5_stepLive s m args below meth c (dC, dI) vwCl 95 a (kcf cI cS a) 3 (MQ below (XQv (dC, dI) vwCl 95 a (kcf cI cS a) h9) args s 0 0 (xA 95 a)) h [(0, .ref (a 0)), (1, .int x1), (2, .int x2)] [] 45 := by
    intro h x1 x2  hf
    unfold f_X5_stepLive_45 at hf
    refine xr_aload_n C dX5_stepLive_45 0 rfl rfl ?_
    refine xr_iload_n C dX5_stepLive_46 1 rfl rfl ?_
    refine xr_iload_n C dX5_stepLive_47 2 rfl rfl ?_
    obtain ⟨hh5, ee4, hf⟩ := bV_some hf
    refine xr_callVv C (Cn := RX5) 0 (by decide) rfl rfl [.int x1, .int x2] [] (c_X5_advance l dC dI cI cS a hD h x1 x2 ee4) (cwV 2 C.2.2.1 gX5_stepLive_X5_advance rfl rfl rfl (by decide +kernel) ⟨Nat.le_of_ble_eq_true rfl, Nat.le_of_ble_eq_true rfl⟩) rfl rfl (Nat.le_of_ble_eq_true rfl) dX5_stepLive_48 ?_
    cases hf
    exact xr_vret C hlk hr dX5_stepLive_51
  have lab28 : ∀ (h : hp) (x1 : Int32) (x2 : Int32) , f_X5_stepLive_28 h x1 x2 = some h9 → XJ p l e rmX5_stepLive s m args below meth c (dC, dI) vwCl 95 a (kcf cI cS a) 3 (MQ below (XQv (dC, dI) vwCl 95 a (kcf cI cS a) h9) args s 0 0 (xA 95 a)) h [(0, .ref (a 0)), (1, .int x1), (2, .int x2)] [] 28 := by
    intro h x1 x2  hf
    unfold f_X5_stepLive_28 at hf
    refine xr_iload_n C dX5_stepLive_28 1 rfl rfl ?_
    refine xr_if_eq C 45 dX5_stepLive_29 (by decide) (fun cd3 => ?_) (fun cd3 => ?_)
    · rw [if_pos cd3] at hf
      exact xr_sub C [0, 1, 2] rfl (lab45 h x1 x2  hf)
    · rw [if_neg cd3] at hf
      refine xr_aload_n C dX5_stepLive_32 0 rfl rfl ?_
      refine xr_get C (ci := 5) (Cn := RX5) (T := TX5) (N := 9) (v := .ref (a 7)) 0 (by decide) rfl rfl 3 (by decide) wnX5 wl39 rfl rfl dX5_stepLive_33 ?_
      refine xr_aload_n C dX5_stepLive_36 0 rfl rfl ?_
      refine xr_get C (ci := 5) (Cn := RX5) (T := TX5) (N := 9) (v := .int (h 0 7)) 0 (by decide) rfl rfl 7 (by decide) wnX5 wl78 rfl rfl dX5_stepLive_37 ?_
      refine xr_iload_n C dX5_stepLive_40 1 rfl rfl ?_
      refine xr_iload_n C dX5_stepLive_41 2 rfl rfl ?_
      obtain ⟨hh7, ee6, hf⟩ := bV_some hf
      refine xr_callVv C (Cn := RX1) 7 (by decide) rfl rfl [.int (h 0 7), .int x1, .int x2] [] (c_X1_add l dC dI cI cS a hD h (h 0 7) x1 x2 ee6) (cwV 3 C.2.2.1 gX5_stepLive_X1_add rfl rfl rfl (by decide +kernel) ⟨Nat.le_of_ble_eq_true rfl, Nat.le_of_ble_eq_true rfl⟩) rfl rfl (Nat.le_of_ble_eq_true rfl) dX5_stepLive_42 ?_
      exact xr_sub C [0, 1, 2] rfl (lab45 hh7 x1 x2  hf)
  unfold f_X5_stepLive at hf
  refine xr_iconst C (v := 0) dX5_stepLive_0 (by decide +kernel) ?_
  refine xr_istore_n C [(2, .int 0), (0, .ref (a 0)), (1, .int x1)] dX5_stepLive_1 rfl (by decide) rfl ?_
  refine xr_iload_n C dX5_stepLive_2 2 rfl rfl ?_
  refine xr_iconst C (v := 2) dX5_stepLive_3 (by decide +kernel) ?_
  refine xr_icmp_ne C 15 dX5_stepLive_4 (by decide) (fun cd1 => ?_) (fun cd1 => ?_)
  · rw [if_neg cd1] at hf
    refine xr_iload_n C dX5_stepLive_15 2 rfl rfl ?_
    refine xr_iconst C (v := 1) dX5_stepLive_16 (by decide +kernel) ?_
    refine xr_icmp_ne C 28 dX5_stepLive_17 (by decide) (fun cd2 => ?_) (fun cd2 => ?_)
    · rw [if_neg cd2] at hf
      exact xr_sub C [1, 2, 0] rfl (lab28 h x1 0  hf)
    · rw [if_pos cd2] at hf
      refine xr_aload_n C dX5_stepLive_20 1 rfl rfl ?_
      refine xr_get C (ci := 5) (Cn := RX5) (T := TX5) (N := 9) (v := .ref (a 5)) 0 (by decide) rfl rfl 2 (by decide) wnX5 wl32 rfl rfl dX5_stepLive_21 ?_
      obtain ⟨rr9, hh10, ee8, hf⟩ := bM_some hf
      refine xr_callVi C (Cn := RX0) 5 (by decide) rfl rfl [] [] (c_X0_take l dC dI cI cS a hD h ee8) (cwV 0 C.2.2.1 gX5_stepLive_X0_take rfl rfl rfl (by decide +kernel) ⟨Nat.le_of_ble_eq_true rfl, Nat.le_of_ble_eq_true rfl⟩) rfl rfl (Nat.le_of_ble_eq_true rfl) dX5_stepLive_24 ?_
      refine xr_istore_n C [(2, .int rr9), (0, .ref (a 0)), (1, .int x1)] dX5_stepLive_27 rfl (by decide) rfl ?_
      exact xr_sub C [1, 2, 0] rfl (lab28 hh10 x1 rr9  hf)
  · rw [if_pos cd1] at hf
    refine xr_aload_n C dX5_stepLive_7 1 rfl rfl ?_
    refine xr_iconst C (v := 0) dX5_stepLive_8 (by decide +kernel) ?_
    refine xr_put C (ci := 5) (Cn := RX5) (T := TX5) (N := 9) (ty := .boolean) (v := 0) 0 (by decide) rfl rfl 6 (by decide) wnX5 wl75 rfl tyX5 tyX5_ok nmX5 rfl (by decide +kernel) (by decide +kernel) (by decide +kernel) (Nat.le_of_ble_eq_true rfl) rfl dX5_stepLive_9 ?_
    refine xr_goto C 28 dX5_stepLive_12 (by decide) ?_
    exact xr_sub C [1, 2, 0] rfl (lab28 (u2 h 0 6 0) x1 0  hf)
def f_X5_stepByLog (h : hp)  : Option hp := bR (f_X1_countBefore h (h 0 7)) (fun rr2 => if h 7 3 ≤ rr2 then (bV (f_X5_advance h 0 0) (fun hh5 => some hh5)) else (gd (¬ (rr2 < 0 ∨ 300 ≤ rr2.toNatClampNeg)) (if h 8 rr2.toNatClampNeg = h 0 7 then (gd (¬ (rr2 < 0 ∨ 300 ≤ rr2.toNatClampNeg)) (gd (¬ (rr2 < 0 ∨ 300 ≤ rr2.toNatClampNeg)) (bV (f_X5_advance h (h 9 rr2.toNatClampNeg) (h 10 rr2.toNatClampNeg)) (fun hh13 => some hh13)))) else (bV (f_X5_advance h 0 0) (fun hh9 => some hh9)))))
abbrev rmX5_stepByLog : Room := { frames := 4, cells := 0, slots := 0, locals := 91 }
set_option maxHeartbeats 4000000 in
set_option maxRecDepth 100000 in
theorem c_X5_stepByLog (l : Launch) (dC : Nat → ClassId) (dI : Nat → Nat → Nat) (cI cS : ClassId) (a : Nat → Nat) (hD : xD 95 a) (h : hp)  {h9 : hp} (hf : f_X5_stepByLog h  = some h9) : XMv l yX5_stepByLog wsX5_stepByLog rmX5_stepByLog (dC, dI) vwCl (kty cI cS) 95 a (kcf cI cS a) h [.ref (a 0)] h9 := by
  refine xm_v (cc := cX5_stepByLog) (maxL := 2) (ws' := wsX5_stepByLog.tail) (by decide) rfl hD (Nat.le_of_ble_eq_true rfl) [(0, .ref (a 0))] rfl RX5 rfl ?_
  intro p e s m args below meth c C hlk hr
  have wl39 : Cond.fieldLink RX5 39 "RewindBox" "entries" "LRewindBox$Log;" ∈ wsX5_stepByLog := by decide +kernel
  have wnX5 : ∀ w ∈ u_ws RX5 TX5 9, w ∈ wsX5_stepByLog := by decide +kernel
  have wl78 : Cond.fieldLink RX5 78 "RewindBox" "now" "I" ∈ wsX5_stepByLog := by decide +kernel
  have wl68 : Cond.fieldLink RX5 68 "RewindBox$Log" "count" "I" ∈ wsX5_stepByLog := by decide +kernel
  have wnX1 : ∀ w ∈ u_ws RX1 TX1 4, w ∈ wsX5_stepByLog := by decide +kernel
  have wl124 : Cond.fieldLink RX5 124 "RewindBox$Log" "positions" "[I" ∈ wsX5_stepByLog := by decide +kernel
  have wl127 : Cond.fieldLink RX5 127 "RewindBox$Log" "kinds" "[I" ∈ wsX5_stepByLog := by decide +kernel
  have wl130 : Cond.fieldLink RX5 130 "RewindBox$Log" "values" "[I" ∈ wsX5_stepByLog := by decide +kernel
  unfold f_X5_stepByLog at hf
  refine xr_aload_n C dX5_stepByLog_0 0 rfl rfl ?_
  refine xr_get C (ci := 5) (Cn := RX5) (T := TX5) (N := 9) (v := .ref (a 7)) 0 (by decide) rfl rfl 3 (by decide) wnX5 wl39 rfl rfl dX5_stepByLog_1 ?_
  refine xr_aload_n C dX5_stepByLog_4 0 rfl rfl ?_
  refine xr_get C (ci := 5) (Cn := RX5) (T := TX5) (N := 9) (v := .int (h 0 7)) 0 (by decide) rfl rfl 7 (by decide) wnX5 wl78 rfl rfl dX5_stepByLog_5 ?_
  obtain ⟨rr2, ee1, hf⟩ := bR_some hf
  refine xr_callVi C (Cn := RX1) 7 (by decide) rfl rfl [.int (h 0 7)] [] (c_X1_countBefore l dC dI cI cS a hD h (h 0 7) ee1) (cwV 1 C.2.2.1 gX5_stepByLog_X1_countBefore rfl rfl rfl (by decide +kernel) ⟨Nat.le_of_ble_eq_true rfl, Nat.le_of_ble_eq_true rfl⟩) rfl rfl (Nat.le_of_ble_eq_true rfl) dX5_stepByLog_8 ?_
  refine xr_istore_n C [(1, .int rr2), (0, .ref (a 0))] dX5_stepByLog_11 rfl (by decide) rfl ?_
  refine xr_iload_n C dX5_stepByLog_12 0 rfl rfl ?_
  refine xr_aload_n C dX5_stepByLog_13 1 rfl rfl ?_
  refine xr_get C (ci := 5) (Cn := RX5) (T := TX5) (N := 9) (v := .ref (a 7)) 0 (by decide) rfl rfl 3 (by decide) wnX5 wl39 rfl rfl dX5_stepByLog_14 ?_
  refine xr_get C (ci := 1) (Cn := RX1) (T := TX1) (N := 4) (v := .int (h 7 3)) 7 (by decide) rfl rfl 3 (by decide) wnX1 wl68 rfl rfl dX5_stepByLog_17 ?_
  refine xr_icmp_ge C 64 dX5_stepByLog_20 (by decide) (fun cd3 => ?_) (fun cd3 => ?_)
  · rw [if_pos cd3] at hf
    refine xr_aload_n C dX5_stepByLog_64 1 rfl rfl ?_
    refine xr_iconst C (v := 0) dX5_stepByLog_65 (by decide +kernel) ?_
    refine xr_iconst C (v := 0) dX5_stepByLog_66 (by decide +kernel) ?_
    obtain ⟨hh5, ee4, hf⟩ := bV_some hf
    refine xr_callVv C (Cn := RX5) 0 (by decide) rfl rfl [.int 0, .int 0] [] (c_X5_advance l dC dI cI cS a hD h 0 0 ee4) (cwV 2 C.2.2.1 gX5_stepByLog_X5_advance rfl rfl rfl (by decide +kernel) ⟨Nat.le_of_ble_eq_true rfl, Nat.le_of_ble_eq_true rfl⟩) rfl rfl (Nat.le_of_ble_eq_true rfl) dX5_stepByLog_67 ?_
    cases hf
    exact xr_vret C hlk hr dX5_stepByLog_70
  · rw [if_neg cd3] at hf
    refine xr_aload_n C dX5_stepByLog_23 1 rfl rfl ?_
    refine xr_get C (ci := 5) (Cn := RX5) (T := TX5) (N := 9) (v := .ref (a 7)) 0 (by decide) rfl rfl 3 (by decide) wnX5 wl39 rfl rfl dX5_stepByLog_24 ?_
    refine xr_get C (ci := 1) (Cn := RX1) (T := TX1) (N := 4) (v := .ref (a 8)) 7 (by decide) rfl rfl 0 (by decide) wnX1 wl124 rfl rfl dX5_stepByLog_27 ?_
    refine xr_iload_n C dX5_stepByLog_30 0 rfl rfl ?_
    obtain ⟨gg6, hf⟩ := gd_some hf
    refine xr_iald C (v := h 8 rr2.toNatClampNeg) 8 (by decide) 0 rfl rfl gg6 rfl dX5_stepByLog_31 ?_
    refine xr_aload_n C dX5_stepByLog_32 1 rfl rfl ?_
    refine xr_get C (ci := 5) (Cn := RX5) (T := TX5) (N := 9) (v := .int (h 0 7)) 0 (by decide) rfl rfl 7 (by decide) wnX5 wl78 rfl rfl dX5_stepByLog_33 ?_
    refine xr_icmp_ne C 64 dX5_stepByLog_36 (by decide) (fun cd7 => ?_) (fun cd7 => ?_)
    · rw [if_neg cd7] at hf
      refine xr_aload_n C dX5_stepByLog_64 1 rfl rfl ?_
      refine xr_iconst C (v := 0) dX5_stepByLog_65 (by decide +kernel) ?_
      refine xr_iconst C (v := 0) dX5_stepByLog_66 (by decide +kernel) ?_
      obtain ⟨hh9, ee8, hf⟩ := bV_some hf
      refine xr_callVv C (Cn := RX5) 0 (by decide) rfl rfl [.int 0, .int 0] [] (c_X5_advance l dC dI cI cS a hD h 0 0 ee8) (cwV 2 C.2.2.1 gX5_stepByLog_X5_advance rfl rfl rfl (by decide +kernel) ⟨Nat.le_of_ble_eq_true rfl, Nat.le_of_ble_eq_true rfl⟩) rfl rfl (Nat.le_of_ble_eq_true rfl) dX5_stepByLog_67 ?_
      cases hf
      exact xr_vret C hlk hr dX5_stepByLog_70
    · rw [if_pos cd7] at hf
      refine xr_aload_n C dX5_stepByLog_39 1 rfl rfl ?_
      refine xr_aload_n C dX5_stepByLog_40 1 rfl rfl ?_
      refine xr_get C (ci := 5) (Cn := RX5) (T := TX5) (N := 9) (v := .ref (a 7)) 0 (by decide) rfl rfl 3 (by decide) wnX5 wl39 rfl rfl dX5_stepByLog_41 ?_
      refine xr_get C (ci := 1) (Cn := RX1) (T := TX1) (N := 4) (v := .ref (a 9)) 7 (by decide) rfl rfl 1 (by decide) wnX1 wl127 rfl rfl dX5_stepByLog_44 ?_
      refine xr_iload_n C dX5_stepByLog_47 0 rfl rfl ?_
      obtain ⟨gg10, hf⟩ := gd_some hf
      refine xr_iald C (v := h 9 rr2.toNatClampNeg) 9 (by decide) 0 rfl rfl gg10 rfl dX5_stepByLog_48 ?_
      refine xr_aload_n C dX5_stepByLog_49 1 rfl rfl ?_
      refine xr_get C (ci := 5) (Cn := RX5) (T := TX5) (N := 9) (v := .ref (a 7)) 0 (by decide) rfl rfl 3 (by decide) wnX5 wl39 rfl rfl dX5_stepByLog_50 ?_
      refine xr_get C (ci := 1) (Cn := RX1) (T := TX1) (N := 4) (v := .ref (a 10)) 7 (by decide) rfl rfl 2 (by decide) wnX1 wl130 rfl rfl dX5_stepByLog_53 ?_
      refine xr_iload_n C dX5_stepByLog_56 0 rfl rfl ?_
      obtain ⟨gg11, hf⟩ := gd_some hf
      refine xr_iald C (v := h 10 rr2.toNatClampNeg) 10 (by decide) 0 rfl rfl gg11 rfl dX5_stepByLog_57 ?_
      obtain ⟨hh13, ee12, hf⟩ := bV_some hf
      refine xr_callVv C (Cn := RX5) 0 (by decide) rfl rfl [.int (h 9 rr2.toNatClampNeg), .int (h 10 rr2.toNatClampNeg)] [] (c_X5_advance l dC dI cI cS a hD h (h 9 rr2.toNatClampNeg) (h 10 rr2.toNatClampNeg) ee12) (cwV 2 C.2.2.1 gX5_stepByLog_X5_advance rfl rfl rfl (by decide +kernel) ⟨Nat.le_of_ble_eq_true rfl, Nat.le_of_ble_eq_true rfl⟩) rfl rfl (Nat.le_of_ble_eq_true rfl) dX5_stepByLog_58 ?_
      refine xr_goto C 70 dX5_stepByLog_61 (by decide) ?_
      cases hf
      exact xr_vret C hlk hr dX5_stepByLog_70
def f_X5_tryStep (h : hp)  : Option (Int32 × hp) := if h 0 8 ≤ h 0 7 then (bR (f_X5_nextLiveKind h) (fun rr3 => if rr3 = (-1) then (some (0, h)) else (bR (f_X5_isFull h rr3) (fun rr6 => if rr6 = 0 then (bV (f_X5_stepLive h rr3) (fun hh9 => some (1, hh9))) else (some (0, h)))))) else (bV (f_X5_stepByLog h) (fun hh11 => some (1, hh11)))
abbrev rmX5_tryStep : Room := { frames := 5, cells := 0, slots := 0, locals := 113 }
set_option maxHeartbeats 4000000 in
set_option maxRecDepth 100000 in
theorem c_X5_tryStep (l : Launch) (dC : Nat → ClassId) (dI : Nat → Nat → Nat) (cI cS : ClassId) (a : Nat → Nat) (hD : xD 95 a) (h : hp)  {r9 : Int32} {h9 : hp} (hf : f_X5_tryStep h  = some (r9, h9)) : XMi l yX5_tryStep wsX5_tryStep rmX5_tryStep (dC, dI) vwCl (kty cI cS) 95 a (kcf cI cS a) h [.ref (a 0)] r9 h9 := by
  refine xm_i (cc := cX5_tryStep) (maxL := 2) (ws' := wsX5_tryStep.tail) (by decide) rfl hD (Nat.le_of_ble_eq_true rfl) [(0, .ref (a 0))] rfl RX5 rfl ?_
  intro p e s m args below meth c C hlk hr
  have wl78 : Cond.fieldLink RX5 78 "RewindBox" "now" "I" ∈ wsX5_tryStep := by decide +kernel
  have wnX5 : ∀ w ∈ u_ws RX5 TX5 9, w ∈ wsX5_tryStep := by decide +kernel
  have wl81 : Cond.fieldLink RX5 81 "RewindBox" "end" "I" ∈ wsX5_tryStep := by decide +kernel
  unfold f_X5_tryStep at hf
  refine xr_aload_n C dX5_tryStep_0 0 rfl rfl ?_
  refine xr_get C (ci := 5) (Cn := RX5) (T := TX5) (N := 9) (v := .int (h 0 7)) 0 (by decide) rfl rfl 7 (by decide) wnX5 wl78 rfl rfl dX5_tryStep_1 ?_
  refine xr_aload_n C dX5_tryStep_4 0 rfl rfl ?_
  refine xr_get C (ci := 5) (Cn := RX5) (T := TX5) (N := 9) (v := .int (h 0 8)) 0 (by decide) rfl rfl 8 (by decide) wnX5 wl81 rfl rfl dX5_tryStep_5 ?_
  refine xr_icmp_ge C 17 dX5_tryStep_8 (by decide) (fun cd1 => ?_) (fun cd1 => ?_)
  · rw [if_pos cd1] at hf
    refine xr_aload_n C dX5_tryStep_17 0 rfl rfl ?_
    obtain ⟨rr3, ee2, hf⟩ := bR_some hf
    refine xr_callVi C (Cn := RX5) 0 (by decide) rfl rfl [] [] (c_X5_nextLiveKind l dC dI cI cS a hD h ee2) (cwV 0 C.2.2.1 gX5_tryStep_X5_nextLiveKind rfl rfl rfl (by decide +kernel) ⟨Nat.le_of_ble_eq_true rfl, Nat.le_of_ble_eq_true rfl⟩) rfl rfl (Nat.le_of_ble_eq_true rfl) dX5_tryStep_18 ?_
    refine xr_istore_n C [(1, .int rr3), (0, .ref (a 0))] dX5_tryStep_21 rfl (by decide) rfl ?_
    refine xr_iload_n C dX5_tryStep_22 0 rfl rfl ?_
    refine xr_iconst C (v := (-1)) dX5_tryStep_23 (by decide +kernel) ?_
    refine xr_icmp_eq C 35 dX5_tryStep_24 (by decide) (fun cd4 => ?_) (fun cd4 => ?_)
    · rw [if_pos cd4] at hf
      refine xr_iconst C (v := 0) dX5_tryStep_35 (by decide +kernel) ?_
      cases hf
      exact xr_zret C hlk hr (by decide +kernel) dX5_tryStep_36
    · rw [if_neg cd4] at hf
      refine xr_aload_n C dX5_tryStep_27 1 rfl rfl ?_
      refine xr_iload_n C dX5_tryStep_28 0 rfl rfl ?_
      obtain ⟨rr6, ee5, hf⟩ := bR_some hf
      refine xr_callVi C (Cn := RX5) 0 (by decide) rfl rfl [.int rr3] [] (c_X5_isFull l dC dI cI cS a hD h rr3 ee5) (cwV 1 C.2.2.1 gX5_tryStep_X5_isFull rfl rfl rfl (by decide +kernel) ⟨Nat.le_of_ble_eq_true rfl, Nat.le_of_ble_eq_true rfl⟩) rfl rfl (Nat.le_of_ble_eq_true rfl) dX5_tryStep_29 ?_
      refine xr_if_eq C 37 dX5_tryStep_32 (by decide) (fun cd7 => ?_) (fun cd7 => ?_)
      · rw [if_pos cd7] at hf
        refine xr_aload_n C dX5_tryStep_37 1 rfl rfl ?_
        refine xr_iload_n C dX5_tryStep_38 0 rfl rfl ?_
        obtain ⟨hh9, ee8, hf⟩ := bV_some hf
        refine xr_callVv C (Cn := RX5) 0 (by decide) rfl rfl [.int rr3] [] (c_X5_stepLive l dC dI cI cS a hD h rr3 ee8) (cwV 1 C.2.2.1 gX5_tryStep_X5_stepLive rfl rfl rfl (by decide +kernel) ⟨Nat.le_of_ble_eq_true rfl, Nat.le_of_ble_eq_true rfl⟩) rfl rfl (Nat.le_of_ble_eq_true rfl) dX5_tryStep_39 ?_
        refine xr_iconst C (v := 1) dX5_tryStep_42 (by decide +kernel) ?_
        cases hf
        exact xr_zret C hlk hr (by decide +kernel) dX5_tryStep_43
      · rw [if_neg cd7] at hf
        refine xr_iconst C (v := 0) dX5_tryStep_35 (by decide +kernel) ?_
        cases hf
        exact xr_zret C hlk hr (by decide +kernel) dX5_tryStep_36
  · rw [if_neg cd1] at hf
    refine xr_aload_n C dX5_tryStep_11 0 rfl rfl ?_
    obtain ⟨hh11, ee10, hf⟩ := bV_some hf
    refine xr_callVv C (Cn := RX5) 0 (by decide) rfl rfl [] [] (c_X5_stepByLog l dC dI cI cS a hD h ee10) (cwV 0 C.2.2.1 gX5_tryStep_X5_stepByLog rfl rfl rfl (by decide +kernel) ⟨Nat.le_of_ble_eq_true rfl, Nat.le_of_ble_eq_true rfl⟩) rfl rfl (Nat.le_of_ble_eq_true rfl) dX5_tryStep_12 ?_
    refine xr_iconst C (v := 1) dX5_tryStep_15 (by decide +kernel) ?_
    cases hf
    exact xr_zret C hlk hr (by decide +kernel) dX5_tryStep_16
def f_X5_step_19 : Nat → hp → Int32 → Int32 → Int32 → Option (Int32 × hp)
  | 0, _, _, _, _ => none
  | n + 1, h, x1, x2, x3 => if x2 ≤ x3 then (some (x3, h)) else (bM (f_X5_tryStep h) (fun rr5 hh6 => if rr5 = 0 then (some (x3, hh6)) else (f_X5_step_19 n hh6 x1 x2 (x3 + 1))))
def f_X5_step (h : hp) (x1 : Int32) : Option (Int32 × hp) := if h 0 5 = 0 then (some ((-1), h)) else (gl (if (10000 : Int32) < x1 then 10000 else x1) (fun v2 => f_X5_step_19 20000 h x1 v2 0))
abbrev rmX5_step : Room := { frames := 6, cells := 0, slots := 0, locals := 134 }
set_option maxHeartbeats 4000000 in
set_option maxRecDepth 100000 in
theorem c_X5_step (l : Launch) (dC : Nat → ClassId) (dI : Nat → Nat → Nat) (cI cS : ClassId) (a : Nat → Nat) (hD : xD 95 a) (h : hp) (x1 : Int32) {r9 : Int32} {h9 : hp} (hf : f_X5_step h x1 = some (r9, h9)) : XMi l yX5_step wsX5_step rmX5_step (dC, dI) vwCl (kty cI cS) 95 a (kcf cI cS a) h [.ref (a 0), .int x1] r9 h9 := by
  refine xm_i (cc := cX5_step) (maxL := 4) (ws' := wsX5_step.tail) (by decide) rfl hD (Nat.le_of_ble_eq_true rfl) [(0, .ref (a 0)), (1, .int x1)] rfl RX5 rfl ?_
  intro p e s m args below meth c C hlk hr
  have wl50 : Cond.fieldLink RX5 50 "RewindBox" "recording" "Z" ∈ wsX5_step := by decide +kernel
  have wnX5 : ∀ w ∈ u_ws RX5 TX5 9, w ∈ wsX5_step := by decide +kernel
  have wmmin0 : Cond.methodLink RX5 9 Lib.Math.min.name ∈ wsX5_step := by decide +kernel
  have wmmin1 : Cond.static Lib.Math.min.name ∈ wsX5_step := by decide +kernel
  have wmmin2 : Cond.initialized "java/lang/Math" ∈ wsX5_step := by decide +kernel
  have wmmin3 : Cond.code Lib.Math.min.name Lib.Math.min.code 2 (some .int) ∈ wsX5_step := by decide +kernel
  have lab19 : ∀ (n : Nat) (h : hp) (x1 : Int32) (x2 : Int32) (x3 : Int32) , f_X5_step_19 n h x1 x2 x3 = some (r9, h9) → XJ p l e rmX5_step s m args below meth c (dC, dI) vwCl 95 a (kcf cI cS a) 4 (MQ below (XQi (dC, dI) vwCl 95 a (kcf cI cS a) r9 h9) args s 0 0 (xA 95 a)) h [(0, .ref (a 0)), (1, .int x1), (2, .int x2), (3, .int x3)] [] 19 := by
    intro n
    induction n with
    | zero => intro h x1 x2 x3  hf; simp [f_X5_step_19] at hf
    | succ n ih =>
      intro h x1 x2 x3  hf
      rw [f_X5_step_19] at hf
      refine xr_iload_n C dX5_step_19 3 rfl rfl ?_
      refine xr_iload_n C dX5_step_20 2 rfl rfl ?_
      refine xr_icmp_ge C 37 dX5_step_21 (by decide) (fun cd3 => ?_) (fun cd3 => ?_)
      · rw [if_pos cd3] at hf
        refine xr_iload_n C dX5_step_37 3 rfl rfl ?_
        cases hf
        exact xr_iret C hlk hr dX5_step_38
      · rw [if_neg cd3] at hf
        refine xr_aload_n C dX5_step_24 0 rfl rfl ?_
        obtain ⟨rr5, hh6, ee4, hf⟩ := bM_some hf
        refine xr_callVi C (Cn := RX5) 0 (by decide) rfl rfl [] [] (c_X5_tryStep l dC dI cI cS a hD h ee4) (cwV 0 C.2.2.1 gX5_step_X5_tryStep rfl rfl rfl (by decide +kernel) ⟨Nat.le_of_ble_eq_true rfl, Nat.le_of_ble_eq_true rfl⟩) rfl rfl (Nat.le_of_ble_eq_true rfl) dX5_step_25 ?_
        refine xr_if_eq C 37 dX5_step_28 (by decide) (fun cd7 => ?_) (fun cd7 => ?_)
        · rw [if_pos cd7] at hf
          refine xr_iload_n C dX5_step_37 3 rfl rfl ?_
          cases hf
          exact xr_iret C hlk hr dX5_step_38
        · rw [if_neg cd7] at hf
          refine xr_iinc C [(3, .int (x3 + 1)), (0, .ref (a 0)), (1, .int x1), (2, .int x2)] dX5_step_31 3 rfl rfl (by decide) rfl ?_
          refine xr_goto C 19 dX5_step_34 (by decide) ?_
          exact xr_sub C [1, 2, 3, 0] rfl (ih hh6 x1 x2 (x3 + 1)  hf)
  unfold f_X5_step at hf
  refine xr_aload_n C dX5_step_0 0 rfl rfl ?_
  refine xr_get C (ci := 5) (Cn := RX5) (T := TX5) (N := 9) (v := .int (h 0 5)) 0 (by decide) rfl rfl 5 (by decide) wnX5 wl50 rfl rfl dX5_step_1 ?_
  refine xr_if_ne C 9 dX5_step_4 (by decide) (fun cd1 => ?_) (fun cd1 => ?_)
  · rw [if_neg cd1] at hf
    refine xr_iload_n C dX5_step_9 1 rfl rfl ?_
    refine xr_sipush C (v := 10000) dX5_step_10 (by decide +kernel) ?_
    refine xr_mmin C wmmin0 wmmin1 wmmin2 wmmin3 (Nat.le_of_ble_eq_true rfl) (Nat.le_of_ble_eq_true rfl) dX5_step_13 ?_
    refine xr_topi C (fun v2 ev2 => ?_)
    have hf := gl_at hf v2 ev2
    refine xr_istore_n C [(2, .int v2), (0, .ref (a 0)), (1, .int x1)] dX5_step_16 rfl (by decide) rfl ?_
    refine xr_iconst C (v := 0) dX5_step_17 (by decide +kernel) ?_
    refine xr_istore_n C [(3, .int 0), (2, .int v2), (0, .ref (a 0)), (1, .int x1)] dX5_step_18 rfl (by decide) rfl ?_
    exact xr_sub C [2, 3, 1, 0] rfl (lab19 20000 h x1 v2 0  hf)
  · rw [if_pos cd1] at hf
    refine xr_iconst C (v := (-1)) dX5_step_7 (by decide +kernel) ?_
    cases hf
    exact xr_iret C hlk hr dX5_step_8
def f_X5_go_46 : Nat → hp → Int32 → Int32 → Int32 → Option (Int32 × hp)
  | 0, _, _, _, _ => none
  | n + 1, h, x1, x2, x3 => if x3 ≤ 0 then (some (1, h)) else (bV (f_X5_stepByLog h) (fun hh11 => f_X5_go_46 n hh11 x1 x2 (x3 + (-1))))
def f_X5_go (h : hp) (x1 : Int32) : Option (Int32 × hp) := bR (f_X5_isOnRecord h x1) (fun rr2 => if rr2 = 0 then (some (0, h)) else (gd (¬ (h 0 0) = 0) (gl (x1 / (h 0 0)) (fun v5 => bV (f_X4_restore h v5) (fun hh7 => gl (x1 - (v5 * (hh7 0 0))) (fun v8 => f_X5_go_46 1000 (u2 hh7 0 7 (v5 * (hh7 0 0))) x1 v5 v8))))))
abbrev rmX5_go : Room := { frames := 5, cells := 0, slots := 0, locals := 112 }
set_option maxHeartbeats 4000000 in
set_option maxRecDepth 100000 in
theorem c_X5_go (l : Launch) (dC : Nat → ClassId) (dI : Nat → Nat → Nat) (cI cS : ClassId) (a : Nat → Nat) (hD : xD 95 a) (h : hp) (x1 : Int32) {r9 : Int32} {h9 : hp} (hf : f_X5_go h x1 = some (r9, h9)) : XMi l yX5_go wsX5_go rmX5_go (dC, dI) vwCl (kty cI cS) 95 a (kcf cI cS a) h [.ref (a 0), .int x1] r9 h9 := by
  refine xm_i (cc := cX5_go) (maxL := 4) (ws' := wsX5_go.tail) (by decide) rfl hD (Nat.le_of_ble_eq_true rfl) [(0, .ref (a 0)), (1, .int x1)] rfl RX5 rfl ?_
  intro p e s m args below meth c C hlk hr
  have wl18 : Cond.fieldLink RX5 18 "RewindBox" "interval" "I" ∈ wsX5_go := by decide +kernel
  have wnX5 : ∀ w ∈ u_ws RX5 TX5 9, w ∈ wsX5_go := by decide +kernel
  have wl46 : Cond.fieldLink RX5 46 "RewindBox" "snapshots" "LRewindBox$Snapshots;" ∈ wsX5_go := by decide +kernel
  have wl25 : Cond.fieldLink RX5 25 "RewindBox" "machine" "LRewindBox$Machine;" ∈ wsX5_go := by decide +kernel
  have wl78 : Cond.fieldLink RX5 78 "RewindBox" "now" "I" ∈ wsX5_go := by decide +kernel
  have lab46 : ∀ (n : Nat) (h : hp) (x1 : Int32) (x2 : Int32) (x3 : Int32) , f_X5_go_46 n h x1 x2 x3 = some (r9, h9) → XJ p l e rmX5_go s m args below meth c (dC, dI) vwCl 95 a (kcf cI cS a) 4 (MQ below (XQi (dC, dI) vwCl 95 a (kcf cI cS a) r9 h9) args s 0 0 (xA 95 a)) h [(0, .ref (a 0)), (1, .int x1), (2, .int x2), (3, .int x3)] [] 46 := by
    intro n
    induction n with
    | zero => intro h x1 x2 x3  hf; simp [f_X5_go_46] at hf
    | succ n ih =>
      intro h x1 x2 x3  hf
      rw [f_X5_go_46] at hf
      refine xr_iload_n C dX5_go_46 3 rfl rfl ?_
      refine xr_if_le C 60 dX5_go_47 (by decide) (fun cd9 => ?_) (fun cd9 => ?_)
      · rw [if_pos cd9] at hf
        refine xr_iconst C (v := 1) dX5_go_60 (by decide +kernel) ?_
        cases hf
        exact xr_zret C hlk hr (by decide +kernel) dX5_go_61
      · rw [if_neg cd9] at hf
        refine xr_aload_n C dX5_go_50 0 rfl rfl ?_
        obtain ⟨hh11, ee10, hf⟩ := bV_some hf
        refine xr_callVv C (Cn := RX5) 0 (by decide) rfl rfl [] [] (c_X5_stepByLog l dC dI cI cS a hD h ee10) (cwV 0 C.2.2.1 gX5_go_X5_stepByLog rfl rfl rfl (by decide +kernel) ⟨Nat.le_of_ble_eq_true rfl, Nat.le_of_ble_eq_true rfl⟩) rfl rfl (Nat.le_of_ble_eq_true rfl) dX5_go_51 ?_
        refine xr_iinc C [(3, .int (x3 + (-1))), (0, .ref (a 0)), (1, .int x1), (2, .int x2)] dX5_go_54 3 rfl rfl (by decide) rfl ?_
        refine xr_goto C 46 dX5_go_57 (by decide) ?_
        exact xr_sub C [1, 2, 3, 0] rfl (ih hh11 x1 x2 (x3 + (-1))  hf)
  unfold f_X5_go at hf
  refine xr_aload_n C dX5_go_0 0 rfl rfl ?_
  refine xr_iload_n C dX5_go_1 1 rfl rfl ?_
  obtain ⟨rr2, ee1, hf⟩ := bR_some hf
  refine xr_callVi C (Cn := RX5) 0 (by decide) rfl rfl [.int x1] [] (c_X5_isOnRecord l dC dI cI cS a hD h x1 ee1) (cwV 1 C.2.2.1 gX5_go_X5_isOnRecord rfl rfl rfl (by decide +kernel) ⟨Nat.le_of_ble_eq_true rfl, Nat.le_of_ble_eq_true rfl⟩) rfl rfl (Nat.le_of_ble_eq_true rfl) dX5_go_2 ?_
  refine xr_if_ne C 10 dX5_go_5 (by decide) (fun cd3 => ?_) (fun cd3 => ?_)
  · rw [if_neg cd3] at hf
    refine xr_iload_n C dX5_go_10 1 rfl rfl ?_
    refine xr_aload_n C dX5_go_11 0 rfl rfl ?_
    refine xr_get C (ci := 5) (Cn := RX5) (T := TX5) (N := 9) (v := .int (h 0 0)) 0 (by decide) rfl rfl 0 (by decide) wnX5 wl18 rfl rfl dX5_go_12 ?_
    obtain ⟨gg4, hf⟩ := gd_some hf
    refine xr_idiv C dX5_go_15 gg4 ?_
    refine xr_topi C (fun v5 ev5 => ?_)
    have hf := gl_at hf v5 ev5
    refine xr_istore_n C [(2, .int v5), (0, .ref (a 0)), (1, .int x1)] dX5_go_16 rfl (by decide) rfl ?_
    refine xr_aload_n C dX5_go_17 1 rfl rfl ?_
    refine xr_get C (ci := 5) (Cn := RX5) (T := TX5) (N := 9) (v := .ref (a 11)) 0 (by decide) rfl rfl 4 (by decide) wnX5 wl46 rfl rfl dX5_go_18 ?_
    refine xr_iload_n C dX5_go_21 0 rfl rfl ?_
    refine xr_aload_n C dX5_go_22 1 rfl rfl ?_
    refine xr_get C (ci := 5) (Cn := RX5) (T := TX5) (N := 9) (v := .ref (a 1)) 0 (by decide) rfl rfl 1 (by decide) wnX5 wl25 rfl rfl dX5_go_23 ?_
    obtain ⟨hh7, ee6, hf⟩ := bV_some hf
    refine xr_callVv C (Cn := RX4) 11 (by decide) rfl rfl [.int v5, .ref (a 1)] [] (c_X4_restore l dC dI cI cS a hD h v5 ee6) (cwV 2 C.2.2.1 gX5_go_X4_restore rfl rfl rfl (by decide +kernel) ⟨Nat.le_of_ble_eq_true rfl, Nat.le_of_ble_eq_true rfl⟩) rfl rfl (Nat.le_of_ble_eq_true rfl) dX5_go_26 ?_
    refine xr_aload_n C dX5_go_29 1 rfl rfl ?_
    refine xr_iload_n C dX5_go_30 0 rfl rfl ?_
    refine xr_aload_n C dX5_go_31 1 rfl rfl ?_
    refine xr_get C (ci := 5) (Cn := RX5) (T := TX5) (N := 9) (v := .int (hh7 0 0)) 0 (by decide) rfl rfl 0 (by decide) wnX5 wl18 rfl rfl dX5_go_32 ?_
    refine xr_imul C dX5_go_35 ?_
    refine xr_put C (ci := 5) (Cn := RX5) (T := TX5) (N := 9) (ty := .int) (v := (v5 * (hh7 0 0))) 0 (by decide) rfl rfl 7 (by decide) wnX5 wl78 rfl tyX5 tyX5_ok nmX5 rfl (by decide +kernel) rfl rfl (Nat.le_of_ble_eq_true rfl) rfl dX5_go_36 ?_
    refine xr_iload_n C dX5_go_39 2 rfl rfl ?_
    refine xr_aload_n C dX5_go_40 1 rfl rfl ?_
    refine xr_get C (ci := 5) (Cn := RX5) (T := TX5) (N := 9) (v := .int (v5 * (hh7 0 0))) 0 (by decide) rfl rfl 7 (by decide) wnX5 wl78 rfl rfl dX5_go_41 ?_
    refine xr_isub C dX5_go_44 ?_
    refine xr_topi C (fun v8 ev8 => ?_)
    have hf := gl_at hf v8 ev8
    refine xr_istore_n C [(3, .int v8), (2, .int v5), (0, .ref (a 0)), (1, .int x1)] dX5_go_45 rfl (by decide) rfl ?_
    exact xr_sub C [2, 3, 1, 0] rfl (lab46 1000 (u2 hh7 0 7 (v5 * (hh7 0 0))) x1 v5 v8  hf)
  · rw [if_pos cd3] at hf
    refine xr_iconst C (v := 0) dX5_go_8 (by decide +kernel) ?_
    cases hf
    exact xr_zret C hlk hr (by decide +kernel) dX5_go_9
def f_X5_far (h0 : hp) (x1 : Int32) : Option Int32 := bR (f_X5_isOnRecord h0 x1) (fun rr2 => if rr2 = 0 then (some (-1)) else (gd (¬ (h0 0 0) = 0) (some (x1 - x1 / (h0 0 0) * (h0 0 0)))))
abbrev rmX5_far : Room := { frames := 1, cells := 0, slots := 0, locals := 21 }
set_option maxHeartbeats 4000000 in
set_option maxRecDepth 100000 in
theorem c_X5_far (l : Launch) (dC : Nat → ClassId) (dI : Nat → Nat → Nat) (cI cS : ClassId) (a : Nat → Nat) (hD : xD 95 a) (h0 : hp) (x1 : Int32) {r9 : Int32} (hf : f_X5_far h0 x1 = some r9) : XMi l yX5_far wsX5_far rmX5_far (dC, dI) vwCl (kty cI cS) 95 a (kcf cI cS a) h0 [.ref (a 0), .int x1] r9 h0 := by
  refine xm_i (cc := cX5_far) (maxL := 2) (ws' := wsX5_far.tail) (by decide) rfl hD (Nat.le_of_ble_eq_true rfl) [(0, .ref (a 0)), (1, .int x1)] rfl RX5 rfl ?_
  intro p e s m args below meth c C hlk hr
  have wl18 : Cond.fieldLink RX5 18 "RewindBox" "interval" "I" ∈ wsX5_far := by decide +kernel
  have wnX5 : ∀ w ∈ u_ws RX5 TX5 9, w ∈ wsX5_far := by decide +kernel
  unfold f_X5_far at hf
  refine xr_aload_n C dX5_far_0 0 rfl rfl ?_
  refine xr_iload_n C dX5_far_1 1 rfl rfl ?_
  obtain ⟨rr2, ee1, hf⟩ := bR_some hf
  refine xr_callVi C (Cn := RX5) 0 (by decide) rfl rfl [.int x1] [] (c_X5_isOnRecord l dC dI cI cS a hD h0 x1 ee1) (cwV 1 C.2.2.1 gX5_far_X5_isOnRecord rfl rfl rfl (by decide +kernel) ⟨Nat.le_of_ble_eq_true rfl, Nat.le_of_ble_eq_true rfl⟩) rfl rfl (Nat.le_of_ble_eq_true rfl) dX5_far_2 ?_
  refine xr_if_eq C 17 dX5_far_5 (by decide) (fun cd3 => ?_) (fun cd3 => ?_)
  · rw [if_pos cd3] at hf
    refine xr_iconst C (v := (-1)) dX5_far_17 (by decide +kernel) ?_
    cases hf
    exact xr_iret C hlk hr dX5_far_18
  · rw [if_neg cd3] at hf
    refine xr_iload_n C dX5_far_8 1 rfl rfl ?_
    refine xr_aload_n C dX5_far_9 0 rfl rfl ?_
    refine xr_get C (ci := 5) (Cn := RX5) (T := TX5) (N := 9) (v := .int (h0 0 0)) 0 (by decide) rfl rfl 0 (by decide) wnX5 wl18 rfl rfl dX5_far_10 ?_
    obtain ⟨gg4, hf⟩ := gd_some hf
    refine xr_irem C dX5_far_13 gg4 ?_
    refine xr_goto C 18 dX5_far_14 (by decide) ?_
    cases hf
    exact xr_iret C hlk hr dX5_far_18
