def f_X5_cut (h : hp)  : Option (Int32 × hp) := if h 0 5 = 0 then (some ((-1), h)) else (bR (f_X1_countBefore (u2 h 0 8 (h 0 7)) (h 0 7)) (fun rr3 => gd (¬ (h 0 0) = 0) (bV (f_X4_keepFirst (u2 (u2 h 0 8 (h 0 7)) 7 3 rr3) (((h 0 7) / (h 0 0)) + 1)) (fun hh6 => some (hh6 7 3, hh6)))))
abbrev rmX5_cut : Room := { frames := 3, cells := 0, slots := 0, locals := 62 }
set_option maxHeartbeats 4000000 in
set_option maxRecDepth 100000 in
theorem c_X5_cut (l : Launch) (dC : Nat → ClassId) (dI : Nat → Nat → Nat) (cI cS : ClassId) (a : Nat → Nat) (hD : xD 95 a) (h : hp)  {r9 : Int32} {h9 : hp} (hf : f_X5_cut h  = some (r9, h9)) : XMi l yX5_cut wsX5_cut rmX5_cut (dC, dI) vwCl (kty cI cS) 95 a (kcf cI cS a) h [.ref (a 0)] r9 h9 := by
  refine xm_i (cc := cX5_cut) (maxL := 1) (ws' := wsX5_cut.tail) (by decide) rfl hD (Nat.le_of_ble_eq_true rfl) [(0, .ref (a 0))] rfl RX5 rfl ?_
  intro p e s m args below meth c C hlk hr
  have wl50 : Cond.fieldLink RX5 50 "RewindBox" "recording" "Z" ∈ wsX5_cut := by decide +kernel
  have wnX5 : ∀ w ∈ u_ws RX5 TX5 9, w ∈ wsX5_cut := by decide +kernel
  have wl78 : Cond.fieldLink RX5 78 "RewindBox" "now" "I" ∈ wsX5_cut := by decide +kernel
  have wl81 : Cond.fieldLink RX5 81 "RewindBox" "end" "I" ∈ wsX5_cut := by decide +kernel
  have wl39 : Cond.fieldLink RX5 39 "RewindBox" "entries" "LRewindBox$Log;" ∈ wsX5_cut := by decide +kernel
  have wl68 : Cond.fieldLink RX5 68 "RewindBox$Log" "count" "I" ∈ wsX5_cut := by decide +kernel
  have wnX1 : ∀ w ∈ u_ws RX1 TX1 4, w ∈ wsX5_cut := by decide +kernel
  have wl46 : Cond.fieldLink RX5 46 "RewindBox" "snapshots" "LRewindBox$Snapshots;" ∈ wsX5_cut := by decide +kernel
  have wl18 : Cond.fieldLink RX5 18 "RewindBox" "interval" "I" ∈ wsX5_cut := by decide +kernel
  unfold f_X5_cut at hf
  refine xr_aload_n C dX5_cut_0 0 rfl rfl ?_
  refine xr_get C (ci := 5) (Cn := RX5) (T := TX5) (N := 9) (v := .int (h 0 5)) 0 (by decide) rfl rfl 5 (by decide) wnX5 wl50 rfl rfl dX5_cut_1 ?_
  refine xr_if_ne C 9 dX5_cut_4 (by decide) (fun cd1 => ?_) (fun cd1 => ?_)
  · rw [if_neg cd1] at hf
    refine xr_aload_n C dX5_cut_9 0 rfl rfl ?_
    refine xr_aload_n C dX5_cut_10 0 rfl rfl ?_
    refine xr_get C (ci := 5) (Cn := RX5) (T := TX5) (N := 9) (v := .int (h 0 7)) 0 (by decide) rfl rfl 7 (by decide) wnX5 wl78 rfl rfl dX5_cut_11 ?_
    refine xr_put C (ci := 5) (Cn := RX5) (T := TX5) (N := 9) (ty := .int) (v := h 0 7) 0 (by decide) rfl rfl 8 (by decide) wnX5 wl81 rfl tyX5 tyX5_ok nmX5 rfl (by decide +kernel) rfl rfl (Nat.le_of_ble_eq_true rfl) rfl dX5_cut_14 ?_
    refine xr_aload_n C dX5_cut_17 0 rfl rfl ?_
    refine xr_get C (ci := 5) (Cn := RX5) (T := TX5) (N := 9) (v := .ref (a 7)) 0 (by decide) rfl rfl 3 (by decide) wnX5 wl39 rfl rfl dX5_cut_18 ?_
    refine xr_aload_n C dX5_cut_21 0 rfl rfl ?_
    refine xr_get C (ci := 5) (Cn := RX5) (T := TX5) (N := 9) (v := .ref (a 7)) 0 (by decide) rfl rfl 3 (by decide) wnX5 wl39 rfl rfl dX5_cut_22 ?_
    refine xr_aload_n C dX5_cut_25 0 rfl rfl ?_
    refine xr_get C (ci := 5) (Cn := RX5) (T := TX5) (N := 9) (v := .int (h 0 7)) 0 (by decide) rfl rfl 7 (by decide) wnX5 wl78 rfl rfl dX5_cut_26 ?_
    obtain ⟨rr3, ee2, hf⟩ := bR_some hf
    refine xr_callVi C (Cn := RX1) 7 (by decide) rfl rfl [.int (h 0 7)] [.ref (a 7)] (c_X1_countBefore l dC dI cI cS a hD (u2 h 0 8 (h 0 7)) (h 0 7) ee2) (cwV 1 C.2.2.1 gX5_cut_X1_countBefore rfl rfl rfl (by decide +kernel) ⟨Nat.le_of_ble_eq_true rfl, Nat.le_of_ble_eq_true rfl⟩) rfl rfl (Nat.le_of_ble_eq_true rfl) dX5_cut_29 ?_
    refine xr_put C (ci := 1) (Cn := RX1) (T := TX1) (N := 4) (ty := .int) (v := rr3) 7 (by decide) rfl rfl 3 (by decide) wnX1 wl68 rfl tyX1 tyX1_ok nmX1 rfl (by decide +kernel) rfl rfl (Nat.le_of_ble_eq_true rfl) rfl dX5_cut_32 ?_
    refine xr_aload_n C dX5_cut_35 0 rfl rfl ?_
    refine xr_get C (ci := 5) (Cn := RX5) (T := TX5) (N := 9) (v := .ref (a 11)) 0 (by decide) rfl rfl 4 (by decide) wnX5 wl46 rfl rfl dX5_cut_36 ?_
    refine xr_aload_n C dX5_cut_39 0 rfl rfl ?_
    refine xr_get C (ci := 5) (Cn := RX5) (T := TX5) (N := 9) (v := .int (h 0 7)) 0 (by decide) rfl rfl 7 (by decide) wnX5 wl78 rfl rfl dX5_cut_40 ?_
    refine xr_aload_n C dX5_cut_43 0 rfl rfl ?_
    refine xr_get C (ci := 5) (Cn := RX5) (T := TX5) (N := 9) (v := .int (h 0 0)) 0 (by decide) rfl rfl 0 (by decide) wnX5 wl18 rfl rfl dX5_cut_44 ?_
    obtain ⟨gg4, hf⟩ := gd_some hf
    refine xr_idiv C dX5_cut_47 gg4 ?_
    refine xr_iconst C (v := 1) dX5_cut_48 (by decide +kernel) ?_
    refine xr_iadd C dX5_cut_49 ?_
    obtain ⟨hh6, ee5, hf⟩ := bV_some hf
    refine xr_callVv C (Cn := RX4) 11 (by decide) rfl rfl [.int (((h 0 7) / (h 0 0)) + 1)] [] (c_X4_keepFirst l dC dI cI cS a hD (u2 (u2 h 0 8 (h 0 7)) 7 3 rr3) (((h 0 7) / (h 0 0)) + 1) ee5) (cwV 1 C.2.2.1 gX5_cut_X4_keepFirst rfl rfl rfl (by decide +kernel) ⟨Nat.le_of_ble_eq_true rfl, Nat.le_of_ble_eq_true rfl⟩) rfl rfl (Nat.le_of_ble_eq_true rfl) dX5_cut_50 ?_
    refine xr_aload_n C dX5_cut_53 0 rfl rfl ?_
    refine xr_get C (ci := 5) (Cn := RX5) (T := TX5) (N := 9) (v := .ref (a 7)) 0 (by decide) rfl rfl 3 (by decide) wnX5 wl39 rfl rfl dX5_cut_54 ?_
    refine xr_get C (ci := 1) (Cn := RX1) (T := TX1) (N := 4) (v := .int (hh6 7 3)) 7 (by decide) rfl rfl 3 (by decide) wnX1 wl68 rfl rfl dX5_cut_57 ?_
    cases hf
    exact xr_iret C hlk hr dX5_cut_60
  · rw [if_pos cd1] at hf
    refine xr_iconst C (v := (-1)) dX5_cut_7 (by decide +kernel) ?_
    cases hf
    exact xr_iret C hlk hr dX5_cut_8
def f_X5_record (h0 : hp) (x1 : Int32) : Option Int32 := if h0 0 5 = 0 then (some (-1)) else (if x1 = 0 then (some (h0 0 7)) else (if x1 = 1 then (some (h0 0 8)) else (if x1 = 2 then (some (h0 7 3)) else (if x1 = 3 then (some (h0 11 3)) else (if x1 = 4 then (some (h0 11 4)) else (if x1 = 5 then (some (h0 5 2)) else (if x1 = 6 then (if h0 0 6 = 0 then (some 0) else (some 1)) else (some (-1)))))))))
abbrev rmX5_record : Room := { frames := 0, cells := 0, slots := 0, locals := 0 }
set_option maxHeartbeats 4000000 in
set_option maxRecDepth 100000 in
theorem c_X5_record (l : Launch) (dC : Nat → ClassId) (dI : Nat → Nat → Nat) (cI cS : ClassId) (a : Nat → Nat) (hD : xD 95 a) (h0 : hp) (x1 : Int32) {r9 : Int32} (hf : f_X5_record h0 x1 = some r9) : XMi l yX5_record wsX5_record rmX5_record (dC, dI) vwCl (kty cI cS) 95 a (kcf cI cS a) h0 [.ref (a 0), .int x1] r9 h0 := by
  refine xm_i (cc := cX5_record) (maxL := 2) (ws' := wsX5_record.tail) (by decide) rfl hD (Nat.le_of_ble_eq_true rfl) [(0, .ref (a 0)), (1, .int x1)] rfl RX5 rfl ?_
  intro p e s m args below meth c C hlk hr
  have wl50 : Cond.fieldLink RX5 50 "RewindBox" "recording" "Z" ∈ wsX5_record := by decide +kernel
  have wnX5 : ∀ w ∈ u_ws RX5 TX5 9, w ∈ wsX5_record := by decide +kernel
  have wl78 : Cond.fieldLink RX5 78 "RewindBox" "now" "I" ∈ wsX5_record := by decide +kernel
  have wl81 : Cond.fieldLink RX5 81 "RewindBox" "end" "I" ∈ wsX5_record := by decide +kernel
  have wl39 : Cond.fieldLink RX5 39 "RewindBox" "entries" "LRewindBox$Log;" ∈ wsX5_record := by decide +kernel
  have wl68 : Cond.fieldLink RX5 68 "RewindBox$Log" "count" "I" ∈ wsX5_record := by decide +kernel
  have wnX1 : ∀ w ∈ u_ws RX1 TX1 4, w ∈ wsX5_record := by decide +kernel
  have wl46 : Cond.fieldLink RX5 46 "RewindBox" "snapshots" "LRewindBox$Snapshots;" ∈ wsX5_record := by decide +kernel
  have wl110 : Cond.fieldLink RX5 110 "RewindBox$Snapshots" "count" "I" ∈ wsX5_record := by decide +kernel
  have wnX4 : ∀ w ∈ u_ws RX4 TX4 5, w ∈ wsX5_record := by decide +kernel
  have wl111 : Cond.fieldLink RX5 111 "RewindBox$Snapshots" "pages" "I" ∈ wsX5_record := by decide +kernel
  have wl32 : Cond.fieldLink RX5 32 "RewindBox" "inputs" "LRewindBox$Inputs;" ∈ wsX5_record := by decide +kernel
  have wl84 : Cond.fieldLink RX5 84 "RewindBox$Inputs" "count" "I" ∈ wsX5_record := by decide +kernel
  have wnX0 : ∀ w ∈ u_ws RX0 TX0 3, w ∈ wsX5_record := by decide +kernel
  have wl75 : Cond.fieldLink RX5 75 "RewindBox" "ringCame" "Z" ∈ wsX5_record := by decide +kernel
  unfold f_X5_record at hf
  refine xr_aload_n C dX5_record_0 0 rfl rfl ?_
  refine xr_get C (ci := 5) (Cn := RX5) (T := TX5) (N := 9) (v := .int (h0 0 5)) 0 (by decide) rfl rfl 5 (by decide) wnX5 wl50 rfl rfl dX5_record_1 ?_
  refine xr_if_ne C 9 dX5_record_4 (by decide) (fun cd1 => ?_) (fun cd1 => ?_)
  · rw [if_neg cd1] at hf
    refine xr_iload_n C dX5_record_9 1 rfl rfl ?_
    by_cases cd2 : x1 = 0
    · rw [if_pos cd2] at hf
      refine xr_tableIn C 52 0 dX5_record_10 (by rw [cd2]; decide) (by decide) (by decide) rfl (by decide) ?_
      refine xr_aload_n C dX5_record_52 0 rfl rfl ?_
      refine xr_get C (ci := 5) (Cn := RX5) (T := TX5) (N := 9) (v := .int (h0 0 7)) 0 (by decide) rfl rfl 7 (by decide) wnX5 wl78 rfl rfl dX5_record_53 ?_
      cases hf
      exact xr_iret C hlk hr dX5_record_56
    rw [if_neg cd2] at hf
    by_cases cd3 : x1 = 1
    · rw [if_pos cd3] at hf
      refine xr_tableIn C 57 1 dX5_record_10 (by rw [cd3]; decide) (by decide) (by decide) rfl (by decide) ?_
      refine xr_aload_n C dX5_record_57 0 rfl rfl ?_
      refine xr_get C (ci := 5) (Cn := RX5) (T := TX5) (N := 9) (v := .int (h0 0 8)) 0 (by decide) rfl rfl 8 (by decide) wnX5 wl81 rfl rfl dX5_record_58 ?_
      cases hf
      exact xr_iret C hlk hr dX5_record_61
    rw [if_neg cd3] at hf
    by_cases cd4 : x1 = 2
    · rw [if_pos cd4] at hf
      refine xr_tableIn C 62 2 dX5_record_10 (by rw [cd4]; decide) (by decide) (by decide) rfl (by decide) ?_
      refine xr_aload_n C dX5_record_62 0 rfl rfl ?_
      refine xr_get C (ci := 5) (Cn := RX5) (T := TX5) (N := 9) (v := .ref (a 7)) 0 (by decide) rfl rfl 3 (by decide) wnX5 wl39 rfl rfl dX5_record_63 ?_
      refine xr_get C (ci := 1) (Cn := RX1) (T := TX1) (N := 4) (v := .int (h0 7 3)) 7 (by decide) rfl rfl 3 (by decide) wnX1 wl68 rfl rfl dX5_record_66 ?_
      cases hf
      exact xr_iret C hlk hr dX5_record_69
    rw [if_neg cd4] at hf
    by_cases cd5 : x1 = 3
    · rw [if_pos cd5] at hf
      refine xr_tableIn C 70 3 dX5_record_10 (by rw [cd5]; decide) (by decide) (by decide) rfl (by decide) ?_
      refine xr_aload_n C dX5_record_70 0 rfl rfl ?_
      refine xr_get C (ci := 5) (Cn := RX5) (T := TX5) (N := 9) (v := .ref (a 11)) 0 (by decide) rfl rfl 4 (by decide) wnX5 wl46 rfl rfl dX5_record_71 ?_
      refine xr_get C (ci := 4) (Cn := RX4) (T := TX4) (N := 5) (v := .int (h0 11 3)) 11 (by decide) rfl rfl 3 (by decide) wnX4 wl110 rfl rfl dX5_record_74 ?_
      cases hf
      exact xr_iret C hlk hr dX5_record_77
    rw [if_neg cd5] at hf
    by_cases cd6 : x1 = 4
    · rw [if_pos cd6] at hf
      refine xr_tableIn C 78 4 dX5_record_10 (by rw [cd6]; decide) (by decide) (by decide) rfl (by decide) ?_
      refine xr_aload_n C dX5_record_78 0 rfl rfl ?_
      refine xr_get C (ci := 5) (Cn := RX5) (T := TX5) (N := 9) (v := .ref (a 11)) 0 (by decide) rfl rfl 4 (by decide) wnX5 wl46 rfl rfl dX5_record_79 ?_
      refine xr_get C (ci := 4) (Cn := RX4) (T := TX4) (N := 5) (v := .int (h0 11 4)) 11 (by decide) rfl rfl 4 (by decide) wnX4 wl111 rfl rfl dX5_record_82 ?_
      cases hf
      exact xr_iret C hlk hr dX5_record_85
    rw [if_neg cd6] at hf
    by_cases cd7 : x1 = 5
    · rw [if_pos cd7] at hf
      refine xr_tableIn C 86 5 dX5_record_10 (by rw [cd7]; decide) (by decide) (by decide) rfl (by decide) ?_
      refine xr_aload_n C dX5_record_86 0 rfl rfl ?_
      refine xr_get C (ci := 5) (Cn := RX5) (T := TX5) (N := 9) (v := .ref (a 5)) 0 (by decide) rfl rfl 2 (by decide) wnX5 wl32 rfl rfl dX5_record_87 ?_
      refine xr_get C (ci := 0) (Cn := RX0) (T := TX0) (N := 3) (v := .int (h0 5 2)) 5 (by decide) rfl rfl 2 (by decide) wnX0 wl84 rfl rfl dX5_record_90 ?_
      cases hf
      exact xr_iret C hlk hr dX5_record_93
    rw [if_neg cd7] at hf
    by_cases cd8 : x1 = 6
    · rw [if_pos cd8] at hf
      refine xr_tableIn C 94 6 dX5_record_10 (by rw [cd8]; decide) (by decide) (by decide) rfl (by decide) ?_
      refine xr_aload_n C dX5_record_94 0 rfl rfl ?_
      refine xr_get C (ci := 5) (Cn := RX5) (T := TX5) (N := 9) (v := .int (h0 0 6)) 0 (by decide) rfl rfl 6 (by decide) wnX5 wl75 rfl rfl dX5_record_95 ?_
      refine xr_if_eq C 105 dX5_record_98 (by decide) (fun cd9 => ?_) (fun cd9 => ?_)
      · rw [if_pos cd9] at hf
        refine xr_iconst C (v := 0) dX5_record_105 (by decide +kernel) ?_
        cases hf
        exact xr_iret C hlk hr dX5_record_106
      · rw [if_neg cd9] at hf
        refine xr_iconst C (v := 1) dX5_record_101 (by decide +kernel) ?_
        refine xr_goto C 106 dX5_record_102 (by decide) ?_
        cases hf
        exact xr_iret C hlk hr dX5_record_106
    rw [if_neg cd8] at hf
    refine xr_tableOut C 107 dX5_record_10 (by have qcd2 := lv_neT cd2 (show Int32.toInt 0 = 0 from by decide); have qcd3 := lv_neT cd3 (show Int32.toInt 1 = 1 from by decide); have qcd4 := lv_neT cd4 (show Int32.toInt 2 = 2 from by decide); have qcd5 := lv_neT cd5 (show Int32.toInt 3 = 3 from by decide); have qcd6 := lv_neT cd6 (show Int32.toInt 4 = 4 from by decide); have qcd7 := lv_neT cd7 (show Int32.toInt 5 = 5 from by decide); have qcd8 := lv_neT cd8 (show Int32.toInt 6 = 6 from by decide); omega) (by decide) ?_
    refine xr_iconst C (v := (-1)) dX5_record_107 (by decide +kernel) ?_
    cases hf
    exact xr_iret C hlk hr dX5_record_108
  · rw [if_pos cd1] at hf
    refine xr_iconst C (v := (-1)) dX5_record_7 (by decide +kernel) ?_
    cases hf
    exact xr_iret C hlk hr dX5_record_8
def f_X5_pages (h0 : hp) (x1 : Int32) : Option Int32 := if h0 0 5 = 0 then (some (-1)) else (if x1 < 0 then (some (-1)) else (if x1 < h0 11 3 then (gd (¬ (x1 < 0 ∨ 40 ≤ x1.toNatClampNeg)) (bR (f_X3_pageCount h0 x1.toNatClampNeg) (fun rr7 => some rr7))) else (some (-1))))
abbrev rmX5_pages : Room := { frames := 2, cells := 0, slots := 0, locals := 40 }
set_option maxHeartbeats 4000000 in
set_option maxRecDepth 100000 in
theorem c_X5_pages (l : Launch) (dC : Nat → ClassId) (dI : Nat → Nat → Nat) (cI cS : ClassId) (a : Nat → Nat) (hD : xD 95 a) (h0 : hp) (x1 : Int32) {r9 : Int32} (hf : f_X5_pages h0 x1 = some r9) : XMi l yX5_pages wsX5_pages rmX5_pages (dC, dI) vwCl (kty cI cS) 95 a (kcf cI cS a) h0 [.ref (a 0), .int x1] r9 h0 := by
  refine xm_i (cc := cX5_pages) (maxL := 2) (ws' := wsX5_pages.tail) (by decide) rfl hD (Nat.le_of_ble_eq_true rfl) [(0, .ref (a 0)), (1, .int x1)] rfl RX5 rfl ?_
  intro p e s m args below meth c C hlk hr
  have wl50 : Cond.fieldLink RX5 50 "RewindBox" "recording" "Z" ∈ wsX5_pages := by decide +kernel
  have wnX5 : ∀ w ∈ u_ws RX5 TX5 9, w ∈ wsX5_pages := by decide +kernel
  have wl46 : Cond.fieldLink RX5 46 "RewindBox" "snapshots" "LRewindBox$Snapshots;" ∈ wsX5_pages := by decide +kernel
  have wl110 : Cond.fieldLink RX5 110 "RewindBox$Snapshots" "count" "I" ∈ wsX5_pages := by decide +kernel
  have wnX4 : ∀ w ∈ u_ws RX4 TX4 5, w ∈ wsX5_pages := by decide +kernel
  have wl114 : Cond.fieldLink RX5 114 "RewindBox$Snapshots" "row" "[LRewindBox$Snapshot;" ∈ wsX5_pages := by decide +kernel
  unfold f_X5_pages at hf
  refine xr_aload_n C dX5_pages_0 0 rfl rfl ?_
  refine xr_get C (ci := 5) (Cn := RX5) (T := TX5) (N := 9) (v := .int (h0 0 5)) 0 (by decide) rfl rfl 5 (by decide) wnX5 wl50 rfl rfl dX5_pages_1 ?_
  refine xr_if_eq C 22 dX5_pages_4 (by decide) (fun cd1 => ?_) (fun cd1 => ?_)
  · rw [if_pos cd1] at hf
    refine xr_iconst C (v := (-1)) dX5_pages_22 (by decide +kernel) ?_
    cases hf
    exact xr_iret C hlk hr dX5_pages_23
  · rw [if_neg cd1] at hf
    refine xr_iload_n C dX5_pages_7 1 rfl rfl ?_
    refine xr_if_lt C 22 dX5_pages_8 (by decide) (fun cd2 => ?_) (fun cd2 => ?_)
    · rw [if_pos cd2] at hf
      refine xr_iconst C (v := (-1)) dX5_pages_22 (by decide +kernel) ?_
      cases hf
      exact xr_iret C hlk hr dX5_pages_23
    · rw [if_neg cd2] at hf
      refine xr_iload_n C dX5_pages_11 1 rfl rfl ?_
      refine xr_aload_n C dX5_pages_12 0 rfl rfl ?_
      refine xr_get C (ci := 5) (Cn := RX5) (T := TX5) (N := 9) (v := .ref (a 11)) 0 (by decide) rfl rfl 4 (by decide) wnX5 wl46 rfl rfl dX5_pages_13 ?_
      refine xr_get C (ci := 4) (Cn := RX4) (T := TX4) (N := 5) (v := .int (h0 11 3)) 11 (by decide) rfl rfl 3 (by decide) wnX4 wl110 rfl rfl dX5_pages_16 ?_
      refine xr_icmp_lt C 24 dX5_pages_19 (by decide) (fun cd3 => ?_) (fun cd3 => ?_)
      · rw [if_pos cd3] at hf
        refine xr_aload_n C dX5_pages_24 0 rfl rfl ?_
        refine xr_get C (ci := 5) (Cn := RX5) (T := TX5) (N := 9) (v := .ref (a 11)) 0 (by decide) rfl rfl 4 (by decide) wnX5 wl46 rfl rfl dX5_pages_25 ?_
        refine xr_get C (ci := 4) (Cn := RX4) (T := TX4) (N := 5) (v := .ref (a 14)) 11 (by decide) rfl rfl 2 (by decide) wnX4 wl114 rfl rfl dX5_pages_28 ?_
        refine xr_iload_n C dX5_pages_31 1 rfl rfl ?_
        obtain ⟨gg4, hf⟩ := gd_some hf
        refine xr_aald C (f := fun k => some (a (k + 15))) 14 (by decide) 1 rfl rfl gg4 rfl dX5_pages_32 ?_
        have hkx1_toNatClampNeg := gd_lt gg4
        obtain ⟨rr7, ee6, hf⟩ := bR_some hf
        refine xr_callVi C (Cn := RX3) (x1.toNatClampNeg + 15) (kid_s hkx1_toNatClampNeg) (kcf_snap hkx1_toNatClampNeg) rfl [] [] (c_X3_pageCount l dC dI cI cS a hD h0 x1.toNatClampNeg hkx1_toNatClampNeg ee6) (cwV 0 C.2.2.1 gX5_pages_X3_pageCount rfl rfl rfl (by decide +kernel) ⟨Nat.le_of_ble_eq_true rfl, Nat.le_of_ble_eq_true rfl⟩) rfl rfl (Nat.le_of_ble_eq_true rfl) dX5_pages_33 ?_
        cases hf
        exact xr_iret C hlk hr dX5_pages_36
      · rw [if_neg cd3] at hf
        refine xr_iconst C (v := (-1)) dX5_pages_22 (by decide +kernel) ?_
        cases hf
        exact xr_iret C hlk hr dX5_pages_23
def f_X5_log (h0 : hp) (x1 : Int32) (x2 : Int32) : Option Int32 := if h0 0 5 = 0 then (some (-1)) else (if x1 < 0 then (some (-1)) else (if x1 < h0 7 3 then (if x2 = 0 then (gd (¬ (x1 < 0 ∨ 300 ≤ x1.toNatClampNeg)) (some (h0 8 x1.toNatClampNeg))) else (if x2 = 1 then (gd (¬ (x1 < 0 ∨ 300 ≤ x1.toNatClampNeg)) (some (h0 9 x1.toNatClampNeg))) else (if x2 = 2 then (gd (¬ (x1 < 0 ∨ 300 ≤ x1.toNatClampNeg)) (some (h0 10 x1.toNatClampNeg))) else (some (-1))))) else (some (-1))))
abbrev rmX5_log : Room := { frames := 0, cells := 0, slots := 0, locals := 0 }
set_option maxHeartbeats 4000000 in
set_option maxRecDepth 100000 in
theorem c_X5_log (l : Launch) (dC : Nat → ClassId) (dI : Nat → Nat → Nat) (cI cS : ClassId) (a : Nat → Nat) (hD : xD 95 a) (h0 : hp) (x1 : Int32) (x2 : Int32) {r9 : Int32} (hf : f_X5_log h0 x1 x2 = some r9) : XMi l yX5_log wsX5_log rmX5_log (dC, dI) vwCl (kty cI cS) 95 a (kcf cI cS a) h0 [.ref (a 0), .int x1, .int x2] r9 h0 := by
  refine xm_i (cc := cX5_log) (maxL := 3) (ws' := wsX5_log.tail) (by decide) rfl hD (Nat.le_of_ble_eq_true rfl) [(0, .ref (a 0)), (1, .int x1), (2, .int x2)] rfl RX5 rfl ?_
  intro p e s m args below meth c C hlk hr
  have wl50 : Cond.fieldLink RX5 50 "RewindBox" "recording" "Z" ∈ wsX5_log := by decide +kernel
  have wnX5 : ∀ w ∈ u_ws RX5 TX5 9, w ∈ wsX5_log := by decide +kernel
  have wl39 : Cond.fieldLink RX5 39 "RewindBox" "entries" "LRewindBox$Log;" ∈ wsX5_log := by decide +kernel
  have wl68 : Cond.fieldLink RX5 68 "RewindBox$Log" "count" "I" ∈ wsX5_log := by decide +kernel
  have wnX1 : ∀ w ∈ u_ws RX1 TX1 4, w ∈ wsX5_log := by decide +kernel
  have wl124 : Cond.fieldLink RX5 124 "RewindBox$Log" "positions" "[I" ∈ wsX5_log := by decide +kernel
  have wl127 : Cond.fieldLink RX5 127 "RewindBox$Log" "kinds" "[I" ∈ wsX5_log := by decide +kernel
  have wl130 : Cond.fieldLink RX5 130 "RewindBox$Log" "values" "[I" ∈ wsX5_log := by decide +kernel
  unfold f_X5_log at hf
  refine xr_aload_n C dX5_log_0 0 rfl rfl ?_
  refine xr_get C (ci := 5) (Cn := RX5) (T := TX5) (N := 9) (v := .int (h0 0 5)) 0 (by decide) rfl rfl 5 (by decide) wnX5 wl50 rfl rfl dX5_log_1 ?_
  refine xr_if_eq C 22 dX5_log_4 (by decide) (fun cd1 => ?_) (fun cd1 => ?_)
  · rw [if_pos cd1] at hf
    refine xr_iconst C (v := (-1)) dX5_log_22 (by decide +kernel) ?_
    cases hf
    exact xr_iret C hlk hr dX5_log_23
  · rw [if_neg cd1] at hf
    refine xr_iload_n C dX5_log_7 1 rfl rfl ?_
    refine xr_if_lt C 22 dX5_log_8 (by decide) (fun cd2 => ?_) (fun cd2 => ?_)
    · rw [if_pos cd2] at hf
      refine xr_iconst C (v := (-1)) dX5_log_22 (by decide +kernel) ?_
      cases hf
      exact xr_iret C hlk hr dX5_log_23
    · rw [if_neg cd2] at hf
      refine xr_iload_n C dX5_log_11 1 rfl rfl ?_
      refine xr_aload_n C dX5_log_12 0 rfl rfl ?_
      refine xr_get C (ci := 5) (Cn := RX5) (T := TX5) (N := 9) (v := .ref (a 7)) 0 (by decide) rfl rfl 3 (by decide) wnX5 wl39 rfl rfl dX5_log_13 ?_
      refine xr_get C (ci := 1) (Cn := RX1) (T := TX1) (N := 4) (v := .int (h0 7 3)) 7 (by decide) rfl rfl 3 (by decide) wnX1 wl68 rfl rfl dX5_log_16 ?_
      refine xr_icmp_lt C 24 dX5_log_19 (by decide) (fun cd3 => ?_) (fun cd3 => ?_)
      · rw [if_pos cd3] at hf
        refine xr_iload_n C dX5_log_24 2 rfl rfl ?_
        by_cases cd4 : x2 = 0
        · rw [if_pos cd4] at hf
          refine xr_tableIn C 52 0 dX5_log_25 (by rw [cd4]; decide) (by decide) (by decide) rfl (by decide) ?_
          refine xr_aload_n C dX5_log_52 0 rfl rfl ?_
          refine xr_get C (ci := 5) (Cn := RX5) (T := TX5) (N := 9) (v := .ref (a 7)) 0 (by decide) rfl rfl 3 (by decide) wnX5 wl39 rfl rfl dX5_log_53 ?_
          refine xr_get C (ci := 1) (Cn := RX1) (T := TX1) (N := 4) (v := .ref (a 8)) 7 (by decide) rfl rfl 0 (by decide) wnX1 wl124 rfl rfl dX5_log_56 ?_
          refine xr_iload_n C dX5_log_59 1 rfl rfl ?_
          obtain ⟨gg5, hf⟩ := gd_some hf
          refine xr_iald C (v := h0 8 x1.toNatClampNeg) 8 (by decide) 0 rfl rfl gg5 rfl dX5_log_60 ?_
          cases hf
          exact xr_iret C hlk hr dX5_log_61
        rw [if_neg cd4] at hf
        by_cases cd6 : x2 = 1
        · rw [if_pos cd6] at hf
          refine xr_tableIn C 62 1 dX5_log_25 (by rw [cd6]; decide) (by decide) (by decide) rfl (by decide) ?_
          refine xr_aload_n C dX5_log_62 0 rfl rfl ?_
          refine xr_get C (ci := 5) (Cn := RX5) (T := TX5) (N := 9) (v := .ref (a 7)) 0 (by decide) rfl rfl 3 (by decide) wnX5 wl39 rfl rfl dX5_log_63 ?_
          refine xr_get C (ci := 1) (Cn := RX1) (T := TX1) (N := 4) (v := .ref (a 9)) 7 (by decide) rfl rfl 1 (by decide) wnX1 wl127 rfl rfl dX5_log_66 ?_
          refine xr_iload_n C dX5_log_69 1 rfl rfl ?_
          obtain ⟨gg7, hf⟩ := gd_some hf
          refine xr_iald C (v := h0 9 x1.toNatClampNeg) 9 (by decide) 0 rfl rfl gg7 rfl dX5_log_70 ?_
          cases hf
          exact xr_iret C hlk hr dX5_log_71
        rw [if_neg cd6] at hf
        by_cases cd8 : x2 = 2
        · rw [if_pos cd8] at hf
          refine xr_tableIn C 72 2 dX5_log_25 (by rw [cd8]; decide) (by decide) (by decide) rfl (by decide) ?_
          refine xr_aload_n C dX5_log_72 0 rfl rfl ?_
          refine xr_get C (ci := 5) (Cn := RX5) (T := TX5) (N := 9) (v := .ref (a 7)) 0 (by decide) rfl rfl 3 (by decide) wnX5 wl39 rfl rfl dX5_log_73 ?_
          refine xr_get C (ci := 1) (Cn := RX1) (T := TX1) (N := 4) (v := .ref (a 10)) 7 (by decide) rfl rfl 2 (by decide) wnX1 wl130 rfl rfl dX5_log_76 ?_
          refine xr_iload_n C dX5_log_79 1 rfl rfl ?_
          obtain ⟨gg9, hf⟩ := gd_some hf
          refine xr_iald C (v := h0 10 x1.toNatClampNeg) 10 (by decide) 0 rfl rfl gg9 rfl dX5_log_80 ?_
          cases hf
          exact xr_iret C hlk hr dX5_log_81
        rw [if_neg cd8] at hf
        refine xr_tableOut C 82 dX5_log_25 (by have qcd4 := lv_neT cd4 (show Int32.toInt 0 = 0 from by decide); have qcd6 := lv_neT cd6 (show Int32.toInt 1 = 1 from by decide); have qcd8 := lv_neT cd8 (show Int32.toInt 2 = 2 from by decide); omega) (by decide) ?_
        refine xr_iconst C (v := (-1)) dX5_log_82 (by decide +kernel) ?_
        cases hf
        exact xr_iret C hlk hr dX5_log_83
      · rw [if_neg cd3] at hf
        refine xr_iconst C (v := (-1)) dX5_log_22 (by decide +kernel) ?_
        cases hf
        exact xr_iret C hlk hr dX5_log_23
def f_X5_register (h0 : hp) (x1 : Int32) : Option Int32 := if x1 < 0 then (if x1 = 8 then (some (h0 1 3)) else (if x1 = 9 then (some (h0 1 4)) else (if x1 = 10 then (if h0 1 5 = 0 then (some 0) else (some 1)) else (some 0)))) else (if 8 ≤ x1 then (if x1 = 8 then (some (h0 1 3)) else (if x1 = 9 then (some (h0 1 4)) else (if x1 = 10 then (if h0 1 5 = 0 then (some 0) else (some 1)) else (some 0)))) else (gd (¬ (x1 < 0 ∨ 8 ≤ x1.toNatClampNeg)) (some (h0 2 x1.toNatClampNeg))))
abbrev rmX5_register : Room := { frames := 0, cells := 0, slots := 0, locals := 0 }
set_option maxHeartbeats 4000000 in
set_option maxRecDepth 100000 in
theorem c_X5_register (l : Launch) (dC : Nat → ClassId) (dI : Nat → Nat → Nat) (cI cS : ClassId) (a : Nat → Nat) (hD : xD 95 a) (h0 : hp) (x1 : Int32) {r9 : Int32} (hf : f_X5_register h0 x1 = some r9) : XMi l yX5_register wsX5_register rmX5_register (dC, dI) vwCl (kty cI cS) 95 a (kcf cI cS a) h0 [.ref (a 0), .int x1] r9 h0 := by
  refine xm_i (cc := cX5_register) (maxL := 2) (ws' := wsX5_register.tail) (by decide) rfl hD (Nat.le_of_ble_eq_true rfl) [(0, .ref (a 0)), (1, .int x1)] rfl RX5 rfl ?_
  intro p e s m args below meth c C hlk hr
  have wl25 : Cond.fieldLink RX5 25 "RewindBox" "machine" "LRewindBox$Machine;" ∈ wsX5_register := by decide +kernel
  have wnX5 : ∀ w ∈ u_ws RX5 TX5 9, w ∈ wsX5_register := by decide +kernel
  have wl136 : Cond.fieldLink RX5 136 "RewindBox$Machine" "pc" "I" ∈ wsX5_register := by decide +kernel
  have wnX2 : ∀ w ∈ u_ws RX2 TX2 8, w ∈ wsX5_register := by decide +kernel
  have wl139 : Cond.fieldLink RX5 139 "RewindBox$Machine" "back" "I" ∈ wsX5_register := by decide +kernel
  have wl142 : Cond.fieldLink RX5 142 "RewindBox$Machine" "open" "Z" ∈ wsX5_register := by decide +kernel
  have wl133 : Cond.fieldLink RX5 133 "RewindBox$Machine" "registers" "[I" ∈ wsX5_register := by decide +kernel
  unfold f_X5_register at hf
  refine xr_iload_n C dX5_register_0 1 rfl rfl ?_
  refine xr_if_lt C 20 dX5_register_1 (by decide) (fun cd1 => ?_) (fun cd1 => ?_)
  · rw [if_pos cd1] at hf
    refine xr_iload_n C dX5_register_20 1 rfl rfl ?_
    by_cases cd2 : x1 = 8
    · rw [if_pos cd2] at hf
      refine xr_tableIn C 48 8 dX5_register_21 (by rw [cd2]; decide) (by decide) (by decide) rfl (by decide) ?_
      refine xr_aload_n C dX5_register_48 0 rfl rfl ?_
      refine xr_get C (ci := 5) (Cn := RX5) (T := TX5) (N := 9) (v := .ref (a 1)) 0 (by decide) rfl rfl 1 (by decide) wnX5 wl25 rfl rfl dX5_register_49 ?_
      refine xr_get C (ci := 2) (Cn := RX2) (T := TX2) (N := 8) (v := .int (h0 1 3)) 1 (by decide) rfl rfl 3 (by decide) wnX2 wl136 rfl rfl dX5_register_52 ?_
      cases hf
      exact xr_iret C hlk hr dX5_register_55
    rw [if_neg cd2] at hf
    by_cases cd3 : x1 = 9
    · rw [if_pos cd3] at hf
      refine xr_tableIn C 56 9 dX5_register_21 (by rw [cd3]; decide) (by decide) (by decide) rfl (by decide) ?_
      refine xr_aload_n C dX5_register_56 0 rfl rfl ?_
      refine xr_get C (ci := 5) (Cn := RX5) (T := TX5) (N := 9) (v := .ref (a 1)) 0 (by decide) rfl rfl 1 (by decide) wnX5 wl25 rfl rfl dX5_register_57 ?_
      refine xr_get C (ci := 2) (Cn := RX2) (T := TX2) (N := 8) (v := .int (h0 1 4)) 1 (by decide) rfl rfl 4 (by decide) wnX2 wl139 rfl rfl dX5_register_60 ?_
      cases hf
      exact xr_iret C hlk hr dX5_register_63
    rw [if_neg cd3] at hf
    by_cases cd4 : x1 = 10
    · rw [if_pos cd4] at hf
      refine xr_tableIn C 64 10 dX5_register_21 (by rw [cd4]; decide) (by decide) (by decide) rfl (by decide) ?_
      refine xr_aload_n C dX5_register_64 0 rfl rfl ?_
      refine xr_get C (ci := 5) (Cn := RX5) (T := TX5) (N := 9) (v := .ref (a 1)) 0 (by decide) rfl rfl 1 (by decide) wnX5 wl25 rfl rfl dX5_register_65 ?_
      refine xr_get C (ci := 2) (Cn := RX2) (T := TX2) (N := 8) (v := .int (h0 1 5)) 1 (by decide) rfl rfl 5 (by decide) wnX2 wl142 rfl rfl dX5_register_68 ?_
      refine xr_if_eq C 78 dX5_register_71 (by decide) (fun cd5 => ?_) (fun cd5 => ?_)
      · rw [if_pos cd5] at hf
        refine xr_iconst C (v := 0) dX5_register_78 (by decide +kernel) ?_
        cases hf
        exact xr_iret C hlk hr dX5_register_79
      · rw [if_neg cd5] at hf
        refine xr_iconst C (v := 1) dX5_register_74 (by decide +kernel) ?_
        refine xr_goto C 79 dX5_register_75 (by decide) ?_
        cases hf
        exact xr_iret C hlk hr dX5_register_79
    rw [if_neg cd4] at hf
    refine xr_tableOut C 80 dX5_register_21 (by have qcd2 := lv_neT cd2 (show Int32.toInt 8 = 8 from by decide); have qcd3 := lv_neT cd3 (show Int32.toInt 9 = 9 from by decide); have qcd4 := lv_neT cd4 (show Int32.toInt 10 = 10 from by decide); omega) (by decide) ?_
    refine xr_iconst C (v := 0) dX5_register_80 (by decide +kernel) ?_
    cases hf
    exact xr_iret C hlk hr dX5_register_81
  · rw [if_neg cd1] at hf
    refine xr_iload_n C dX5_register_4 1 rfl rfl ?_
    refine xr_bipush C (v := 8) dX5_register_5 (by decide +kernel) ?_
    refine xr_icmp_ge C 20 dX5_register_7 (by decide) (fun cd6 => ?_) (fun cd6 => ?_)
    · rw [if_pos cd6] at hf
      refine xr_iload_n C dX5_register_20 1 rfl rfl ?_
      by_cases cd7 : x1 = 8
      · rw [if_pos cd7] at hf
        refine xr_tableIn C 48 8 dX5_register_21 (by rw [cd7]; decide) (by decide) (by decide) rfl (by decide) ?_
        refine xr_aload_n C dX5_register_48 0 rfl rfl ?_
        refine xr_get C (ci := 5) (Cn := RX5) (T := TX5) (N := 9) (v := .ref (a 1)) 0 (by decide) rfl rfl 1 (by decide) wnX5 wl25 rfl rfl dX5_register_49 ?_
        refine xr_get C (ci := 2) (Cn := RX2) (T := TX2) (N := 8) (v := .int (h0 1 3)) 1 (by decide) rfl rfl 3 (by decide) wnX2 wl136 rfl rfl dX5_register_52 ?_
        cases hf
        exact xr_iret C hlk hr dX5_register_55
      rw [if_neg cd7] at hf
      by_cases cd8 : x1 = 9
      · rw [if_pos cd8] at hf
        refine xr_tableIn C 56 9 dX5_register_21 (by rw [cd8]; decide) (by decide) (by decide) rfl (by decide) ?_
        refine xr_aload_n C dX5_register_56 0 rfl rfl ?_
        refine xr_get C (ci := 5) (Cn := RX5) (T := TX5) (N := 9) (v := .ref (a 1)) 0 (by decide) rfl rfl 1 (by decide) wnX5 wl25 rfl rfl dX5_register_57 ?_
        refine xr_get C (ci := 2) (Cn := RX2) (T := TX2) (N := 8) (v := .int (h0 1 4)) 1 (by decide) rfl rfl 4 (by decide) wnX2 wl139 rfl rfl dX5_register_60 ?_
        cases hf
        exact xr_iret C hlk hr dX5_register_63
      rw [if_neg cd8] at hf
      by_cases cd9 : x1 = 10
      · rw [if_pos cd9] at hf
        refine xr_tableIn C 64 10 dX5_register_21 (by rw [cd9]; decide) (by decide) (by decide) rfl (by decide) ?_
        refine xr_aload_n C dX5_register_64 0 rfl rfl ?_
        refine xr_get C (ci := 5) (Cn := RX5) (T := TX5) (N := 9) (v := .ref (a 1)) 0 (by decide) rfl rfl 1 (by decide) wnX5 wl25 rfl rfl dX5_register_65 ?_
        refine xr_get C (ci := 2) (Cn := RX2) (T := TX2) (N := 8) (v := .int (h0 1 5)) 1 (by decide) rfl rfl 5 (by decide) wnX2 wl142 rfl rfl dX5_register_68 ?_
        refine xr_if_eq C 78 dX5_register_71 (by decide) (fun cd10 => ?_) (fun cd10 => ?_)
        · rw [if_pos cd10] at hf
          refine xr_iconst C (v := 0) dX5_register_78 (by decide +kernel) ?_
          cases hf
          exact xr_iret C hlk hr dX5_register_79
        · rw [if_neg cd10] at hf
          refine xr_iconst C (v := 1) dX5_register_74 (by decide +kernel) ?_
          refine xr_goto C 79 dX5_register_75 (by decide) ?_
          cases hf
          exact xr_iret C hlk hr dX5_register_79
      rw [if_neg cd9] at hf
      refine xr_tableOut C 80 dX5_register_21 (by have qcd7 := lv_neT cd7 (show Int32.toInt 8 = 8 from by decide); have qcd8 := lv_neT cd8 (show Int32.toInt 9 = 9 from by decide); have qcd9 := lv_neT cd9 (show Int32.toInt 10 = 10 from by decide); omega) (by decide) ?_
      refine xr_iconst C (v := 0) dX5_register_80 (by decide +kernel) ?_
      cases hf
      exact xr_iret C hlk hr dX5_register_81
    · rw [if_neg cd6] at hf
      refine xr_aload_n C dX5_register_10 0 rfl rfl ?_
      refine xr_get C (ci := 5) (Cn := RX5) (T := TX5) (N := 9) (v := .ref (a 1)) 0 (by decide) rfl rfl 1 (by decide) wnX5 wl25 rfl rfl dX5_register_11 ?_
      refine xr_get C (ci := 2) (Cn := RX2) (T := TX2) (N := 8) (v := .ref (a 2)) 1 (by decide) rfl rfl 0 (by decide) wnX2 wl133 rfl rfl dX5_register_14 ?_
      refine xr_iload_n C dX5_register_17 1 rfl rfl ?_
      obtain ⟨gg11, hf⟩ := gd_some hf
      refine xr_iald C (v := h0 2 x1.toNatClampNeg) 2 (by decide) 0 rfl rfl gg11 rfl dX5_register_18 ?_
      cases hf
      exact xr_iret C hlk hr dX5_register_19
def f_X5_word (h0 : hp) (x1 : Int32) : Option Int32 := if (f_X5_isPlace x1) = 0 then (some 0) else (gd (¬ (x1 < 0 ∨ 512 ≤ x1.toNatClampNeg)) (some (h0 3 x1.toNatClampNeg)))
abbrev rmX5_word : Room := { frames := 1, cells := 0, slots := 0, locals := 20 }
set_option maxHeartbeats 4000000 in
set_option maxRecDepth 100000 in
theorem c_X5_word (l : Launch) (dC : Nat → ClassId) (dI : Nat → Nat → Nat) (cI cS : ClassId) (a : Nat → Nat) (hD : xD 95 a) (h0 : hp) (x1 : Int32) {r9 : Int32} (hf : f_X5_word h0 x1 = some r9) : XMi l yX5_word wsX5_word rmX5_word (dC, dI) vwCl (kty cI cS) 95 a (kcf cI cS a) h0 [.ref (a 0), .int x1] r9 h0 := by
  refine xm_i (cc := cX5_word) (maxL := 2) (ws' := wsX5_word.tail) (by decide) rfl hD (Nat.le_of_ble_eq_true rfl) [(0, .ref (a 0)), (1, .int x1)] rfl RX5 rfl ?_
  intro p e s m args below meth c C hlk hr
  have wl25 : Cond.fieldLink RX5 25 "RewindBox" "machine" "LRewindBox$Machine;" ∈ wsX5_word := by decide +kernel
  have wnX5 : ∀ w ∈ u_ws RX5 TX5 9, w ∈ wsX5_word := by decide +kernel
  have wl58 : Cond.fieldLink RX5 58 "RewindBox$Machine" "memory" "[I" ∈ wsX5_word := by decide +kernel
  have wnX2 : ∀ w ∈ u_ws RX2 TX2 8, w ∈ wsX5_word := by decide +kernel
  unfold f_X5_word at hf
  refine xr_iload_n C dX5_word_0 1 rfl rfl ?_
  refine xr_callSi C [.int x1] [] (c_X5_isPlace l dC dI cI cS a hD h0 x1 rfl) (va_cwS 1 C.2.2.1 gX5_word_X5_isPlace rfl rfl rfl (by decide +kernel) ⟨Nat.le_of_ble_eq_true rfl, Nat.le_of_ble_eq_true rfl⟩) rfl rfl (Nat.le_of_ble_eq_true rfl) dX5_word_1 ?_
  refine xr_if_eq C 19 dX5_word_4 (by decide) (fun cd1 => ?_) (fun cd1 => ?_)
  · rw [if_pos cd1] at hf
    refine xr_iconst C (v := 0) dX5_word_19 (by decide +kernel) ?_
    cases hf
    exact xr_iret C hlk hr dX5_word_20
  · rw [if_neg cd1] at hf
    refine xr_aload_n C dX5_word_7 0 rfl rfl ?_
    refine xr_get C (ci := 5) (Cn := RX5) (T := TX5) (N := 9) (v := .ref (a 1)) 0 (by decide) rfl rfl 1 (by decide) wnX5 wl25 rfl rfl dX5_word_8 ?_
    refine xr_get C (ci := 2) (Cn := RX2) (T := TX2) (N := 8) (v := .ref (a 3)) 1 (by decide) rfl rfl 1 (by decide) wnX2 wl58 rfl rfl dX5_word_11 ?_
    refine xr_iload_n C dX5_word_14 1 rfl rfl ?_
    obtain ⟨gg2, hf⟩ := gd_some hf
    refine xr_iald C (v := h0 3 x1.toNatClampNeg) 3 (by decide) 0 rfl rfl gg2 rfl dX5_word_15 ?_
    refine xr_goto C 20 dX5_word_16 (by decide) ?_
    cases hf
    exact xr_iret C hlk hr dX5_word_20
def f_X5_outs (h0 : hp)  : Option Int32 := some (h0 1 6)
abbrev rmX5_outs : Room := { frames := 0, cells := 0, slots := 0, locals := 0 }
set_option maxHeartbeats 4000000 in
set_option maxRecDepth 100000 in
theorem c_X5_outs (l : Launch) (dC : Nat → ClassId) (dI : Nat → Nat → Nat) (cI cS : ClassId) (a : Nat → Nat) (hD : xD 95 a) (h0 : hp)  {r9 : Int32} (hf : f_X5_outs h0  = some r9) : XMi l yX5_outs wsX5_outs rmX5_outs (dC, dI) vwCl (kty cI cS) 95 a (kcf cI cS a) h0 [.ref (a 0)] r9 h0 := by
  refine xm_i (cc := cX5_outs) (maxL := 1) (ws' := wsX5_outs.tail) (by decide) rfl hD (Nat.le_of_ble_eq_true rfl) [(0, .ref (a 0))] rfl RX5 rfl ?_
  intro p e s m args below meth c C hlk hr
  have wl25 : Cond.fieldLink RX5 25 "RewindBox" "machine" "LRewindBox$Machine;" ∈ wsX5_outs := by decide +kernel
  have wnX5 : ∀ w ∈ u_ws RX5 TX5 9, w ∈ wsX5_outs := by decide +kernel
  have wl145 : Cond.fieldLink RX5 145 "RewindBox$Machine" "outCount" "I" ∈ wsX5_outs := by decide +kernel
  have wnX2 : ∀ w ∈ u_ws RX2 TX2 8, w ∈ wsX5_outs := by decide +kernel
  unfold f_X5_outs at hf
  refine xr_aload_n C dX5_outs_0 0 rfl rfl ?_
  refine xr_get C (ci := 5) (Cn := RX5) (T := TX5) (N := 9) (v := .ref (a 1)) 0 (by decide) rfl rfl 1 (by decide) wnX5 wl25 rfl rfl dX5_outs_1 ?_
  refine xr_get C (ci := 2) (Cn := RX2) (T := TX2) (N := 8) (v := .int (h0 1 6)) 1 (by decide) rfl rfl 6 (by decide) wnX2 wl145 rfl rfl dX5_outs_4 ?_
  cases hf
  exact xr_iret C hlk hr dX5_outs_7
def f_X5_out (h0 : hp) (x1 : Int32) : Option Int32 := if x1 < 0 then (some 0) else (if h0 1 6 ≤ x1 then (some 0) else (if x1 < 64 then (gd (¬ (x1 < 0 ∨ 64 ≤ x1.toNatClampNeg)) (some (h0 4 x1.toNatClampNeg))) else (some 0)))
abbrev rmX5_out : Room := { frames := 0, cells := 0, slots := 0, locals := 0 }
set_option maxHeartbeats 4000000 in
set_option maxRecDepth 100000 in
theorem c_X5_out (l : Launch) (dC : Nat → ClassId) (dI : Nat → Nat → Nat) (cI cS : ClassId) (a : Nat → Nat) (hD : xD 95 a) (h0 : hp) (x1 : Int32) {r9 : Int32} (hf : f_X5_out h0 x1 = some r9) : XMi l yX5_out wsX5_out rmX5_out (dC, dI) vwCl (kty cI cS) 95 a (kcf cI cS a) h0 [.ref (a 0), .int x1] r9 h0 := by
  refine xm_i (cc := cX5_out) (maxL := 2) (ws' := wsX5_out.tail) (by decide) rfl hD (Nat.le_of_ble_eq_true rfl) [(0, .ref (a 0)), (1, .int x1)] rfl RX5 rfl ?_
  intro p e s m args below meth c C hlk hr
  have wl25 : Cond.fieldLink RX5 25 "RewindBox" "machine" "LRewindBox$Machine;" ∈ wsX5_out := by decide +kernel
  have wnX5 : ∀ w ∈ u_ws RX5 TX5 9, w ∈ wsX5_out := by decide +kernel
  have wl145 : Cond.fieldLink RX5 145 "RewindBox$Machine" "outCount" "I" ∈ wsX5_out := by decide +kernel
  have wnX2 : ∀ w ∈ u_ws RX2 TX2 8, w ∈ wsX5_out := by decide +kernel
  have wl148 : Cond.fieldLink RX5 148 "RewindBox$Machine" "keptOuts" "[I" ∈ wsX5_out := by decide +kernel
  unfold f_X5_out at hf
  refine xr_iload_n C dX5_out_0 1 rfl rfl ?_
  refine xr_if_lt C 21 dX5_out_1 (by decide) (fun cd1 => ?_) (fun cd1 => ?_)
  · rw [if_pos cd1] at hf
    refine xr_iconst C (v := 0) dX5_out_21 (by decide +kernel) ?_
    cases hf
    exact xr_iret C hlk hr dX5_out_22
  · rw [if_neg cd1] at hf
    refine xr_iload_n C dX5_out_4 1 rfl rfl ?_
    refine xr_aload_n C dX5_out_5 0 rfl rfl ?_
    refine xr_get C (ci := 5) (Cn := RX5) (T := TX5) (N := 9) (v := .ref (a 1)) 0 (by decide) rfl rfl 1 (by decide) wnX5 wl25 rfl rfl dX5_out_6 ?_
    refine xr_get C (ci := 2) (Cn := RX2) (T := TX2) (N := 8) (v := .int (h0 1 6)) 1 (by decide) rfl rfl 6 (by decide) wnX2 wl145 rfl rfl dX5_out_9 ?_
    refine xr_icmp_ge C 21 dX5_out_12 (by decide) (fun cd2 => ?_) (fun cd2 => ?_)
    · rw [if_pos cd2] at hf
      refine xr_iconst C (v := 0) dX5_out_21 (by decide +kernel) ?_
      cases hf
      exact xr_iret C hlk hr dX5_out_22
    · rw [if_neg cd2] at hf
      refine xr_iload_n C dX5_out_15 1 rfl rfl ?_
      refine xr_bipush C (v := 64) dX5_out_16 (by decide +kernel) ?_
      refine xr_icmp_lt C 23 dX5_out_18 (by decide) (fun cd3 => ?_) (fun cd3 => ?_)
      · rw [if_pos cd3] at hf
        refine xr_aload_n C dX5_out_23 0 rfl rfl ?_
        refine xr_get C (ci := 5) (Cn := RX5) (T := TX5) (N := 9) (v := .ref (a 1)) 0 (by decide) rfl rfl 1 (by decide) wnX5 wl25 rfl rfl dX5_out_24 ?_
        refine xr_get C (ci := 2) (Cn := RX2) (T := TX2) (N := 8) (v := .ref (a 4)) 1 (by decide) rfl rfl 2 (by decide) wnX2 wl148 rfl rfl dX5_out_27 ?_
        refine xr_iload_n C dX5_out_30 1 rfl rfl ?_
        obtain ⟨gg4, hf⟩ := gd_some hf
        refine xr_iald C (v := h0 4 x1.toNatClampNeg) 4 (by decide) 0 rfl rfl gg4 rfl dX5_out_31 ?_
        cases hf
        exact xr_iret C hlk hr dX5_out_32
      · rw [if_neg cd3] at hf
        refine xr_iconst C (v := 0) dX5_out_21 (by decide +kernel) ?_
        cases hf
        exact xr_iret C hlk hr dX5_out_22
