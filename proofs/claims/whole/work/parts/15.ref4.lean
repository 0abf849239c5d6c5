def f_X6_far (h0 : hp) (x1 : Int32) : Option Int32 := bR (f_X6_isThere h0 x1) (fun rr2 => if rr2 = 0 then (some (-1)) else (gd (¬ (h0 0 0) = 0) (some (x1 - x1 / (h0 0 0) * (h0 0 0)))))
abbrev rmX6_far : Room := { frames := 1, cells := 0, slots := 0, locals := 21 }
set_option maxHeartbeats 4000000 in
set_option maxRecDepth 100000 in
theorem c_X6_far (l : Launch) (dC : Nat → ClassId) (dI : Nat → Nat → Nat) (cI cZ : ClassId) (a : Nat → Nat) (hD : xD 11 a) (h0 : hp) (x1 : Int32) {r9 : Int32} (hf : f_X6_far h0 x1 = some r9) : XMi l yX6_far wsX6_far rmX6_far (dC, dI) vwCl (mty cI cZ) 11 a (mcf cI cZ a) h0 [.ref (a 0), .int x1] r9 h0 := by
  refine xm_i (cc := cX6_far) (maxL := 2) (ws' := wsX6_far.tail) (by decide) rfl hD (Nat.le_of_ble_eq_true rfl) [(0, .ref (a 0)), (1, .int x1)] rfl RX6 rfl ?_
  intro p e s m args below meth c C hlk hr
  have wl41 : Cond.fieldLink RX6 41 "RewindBoxModel" "interval" "I" ∈ wsX6_far := by decide +kernel
  have wnX6 : ∀ w ∈ u_ws RX6 TX6 23, w ∈ wsX6_far := by decide +kernel
  unfold f_X6_far at hf
  refine xr_aload_n C dX6_far_0 0 rfl rfl ?_
  refine xr_iload_n C dX6_far_1 1 rfl rfl ?_
  obtain ⟨rr2, ee1, hf⟩ := bR_some hf
  refine xr_callVi C (Cn := RX6) 0 (by decide) rfl rfl [.int x1] [] (c_X6_isThere l dC dI cI cZ a hD h0 x1 ee1) (cwV 1 C.2.2.1 gX6_far_X6_isThere rfl rfl rfl (by decide +kernel) ⟨Nat.le_of_ble_eq_true rfl, Nat.le_of_ble_eq_true rfl⟩) rfl rfl (Nat.le_of_ble_eq_true rfl) dX6_far_2 ?_
  refine xr_if_eq C 17 dX6_far_5 (by decide) (fun cd3 => ?_) (fun cd3 => ?_)
  · rw [if_pos cd3] at hf
    refine xr_iconst C (v := (-1)) dX6_far_17 (by decide +kernel) ?_
    cases hf
    exact xr_iret C hlk hr dX6_far_18
  · rw [if_neg cd3] at hf
    refine xr_iload_n C dX6_far_8 1 rfl rfl ?_
    refine xr_aload_n C dX6_far_9 0 rfl rfl ?_
    refine xr_get C (ci := 6) (Cn := RX6) (T := TX6) (N := 23) (v := .int (h0 0 0)) 0 (by decide) rfl rfl 0 (by decide) wnX6 wl41 rfl rfl dX6_far_10 ?_
    obtain ⟨gg4, hf⟩ := gd_some hf
    refine xr_irem C dX6_far_13 gg4 ?_
    refine xr_goto C 18 dX6_far_14 (by decide) ?_
    cases hf
    exact xr_iret C hlk hr dX6_far_18
def f_X6_cut (h : hp)  : Option (Int32 × hp) := if h 0 9 = 0 then (some ((-1), h)) else (gd (¬ (h 0 0) = 0) (some (h 0 16, (u2 (u2 (u2 h 0 11 (h 0 10)) 0 15 (h 0 16)) 0 17 (((h 0 10) / (h 0 0)) + 1)))))
abbrev rmX6_cut : Room := { frames := 0, cells := 0, slots := 0, locals := 0 }
set_option maxHeartbeats 4000000 in
set_option maxRecDepth 100000 in
theorem c_X6_cut (l : Launch) (dC : Nat → ClassId) (dI : Nat → Nat → Nat) (cI cZ : ClassId) (a : Nat → Nat) (hD : xD 11 a) (h : hp)  {r9 : Int32} {h9 : hp} (hf : f_X6_cut h  = some (r9, h9)) : XMi l yX6_cut wsX6_cut rmX6_cut (dC, dI) vwCl (mty cI cZ) 11 a (mcf cI cZ a) h [.ref (a 0)] r9 h9 := by
  refine xm_i (cc := cX6_cut) (maxL := 1) (ws' := wsX6_cut.tail) (by decide) rfl hD (Nat.le_of_ble_eq_true rfl) [(0, .ref (a 0))] rfl RX6 rfl ?_
  intro p e s m args below meth c C hlk hr
  have wl45 : Cond.fieldLink RX6 45 "RewindBoxModel" "records" "Z" ∈ wsX6_cut := by decide +kernel
  have wnX6 : ∀ w ∈ u_ws RX6 TX6 23, w ∈ wsX6_cut := by decide +kernel
  have wl65 : Cond.fieldLink RX6 65 "RewindBoxModel" "position" "I" ∈ wsX6_cut := by decide +kernel
  have wl71 : Cond.fieldLink RX6 71 "RewindBoxModel" "end" "I" ∈ wsX6_cut := by decide +kernel
  have wl68 : Cond.fieldLink RX6 68 "RewindBoxModel" "passed" "I" ∈ wsX6_cut := by decide +kernel
  have wl74 : Cond.fieldLink RX6 74 "RewindBoxModel" "entries" "I" ∈ wsX6_cut := by decide +kernel
  have wl41 : Cond.fieldLink RX6 41 "RewindBoxModel" "interval" "I" ∈ wsX6_cut := by decide +kernel
  have wl77 : Cond.fieldLink RX6 77 "RewindBoxModel" "snapshots" "I" ∈ wsX6_cut := by decide +kernel
  unfold f_X6_cut at hf
  refine xr_aload_n C dX6_cut_0 0 rfl rfl ?_
  refine xr_get C (ci := 6) (Cn := RX6) (T := TX6) (N := 23) (v := .int (h 0 9)) 0 (by decide) rfl rfl 9 (by decide) wnX6 wl45 rfl rfl dX6_cut_1 ?_
  refine xr_if_ne C 9 dX6_cut_4 (by decide) (fun cd1 => ?_) (fun cd1 => ?_)
  · rw [if_neg cd1] at hf
    refine xr_aload_n C dX6_cut_9 0 rfl rfl ?_
    refine xr_aload_n C dX6_cut_10 0 rfl rfl ?_
    refine xr_get C (ci := 6) (Cn := RX6) (T := TX6) (N := 23) (v := .int (h 0 10)) 0 (by decide) rfl rfl 10 (by decide) wnX6 wl65 rfl rfl dX6_cut_11 ?_
    refine xr_put C (ci := 6) (Cn := RX6) (T := TX6) (N := 23) (ty := .int) (v := h 0 10) 0 (by decide) rfl rfl 11 (by decide) wnX6 wl71 rfl tyX6 tyX6_ok nmX6 rfl (by decide +kernel) rfl rfl (Nat.le_of_ble_eq_true rfl) rfl dX6_cut_14 ?_
    refine xr_aload_n C dX6_cut_17 0 rfl rfl ?_
    refine xr_aload_n C dX6_cut_18 0 rfl rfl ?_
    refine xr_get C (ci := 6) (Cn := RX6) (T := TX6) (N := 23) (v := .int (h 0 16)) 0 (by decide) rfl rfl 16 (by decide) wnX6 wl68 rfl rfl dX6_cut_19 ?_
    refine xr_put C (ci := 6) (Cn := RX6) (T := TX6) (N := 23) (ty := .int) (v := h 0 16) 0 (by decide) rfl rfl 15 (by decide) wnX6 wl74 rfl tyX6 tyX6_ok nmX6 rfl (by decide +kernel) rfl rfl (Nat.le_of_ble_eq_true rfl) rfl dX6_cut_22 ?_
    refine xr_aload_n C dX6_cut_25 0 rfl rfl ?_
    refine xr_aload_n C dX6_cut_26 0 rfl rfl ?_
    refine xr_get C (ci := 6) (Cn := RX6) (T := TX6) (N := 23) (v := .int (h 0 10)) 0 (by decide) rfl rfl 10 (by decide) wnX6 wl65 rfl rfl dX6_cut_27 ?_
    refine xr_aload_n C dX6_cut_30 0 rfl rfl ?_
    refine xr_get C (ci := 6) (Cn := RX6) (T := TX6) (N := 23) (v := .int (h 0 0)) 0 (by decide) rfl rfl 0 (by decide) wnX6 wl41 rfl rfl dX6_cut_31 ?_
    obtain ⟨gg2, hf⟩ := gd_some hf
    refine xr_idiv C dX6_cut_34 gg2 ?_
    refine xr_iconst C (v := 1) dX6_cut_35 (by decide +kernel) ?_
    refine xr_iadd C dX6_cut_36 ?_
    refine xr_put C (ci := 6) (Cn := RX6) (T := TX6) (N := 23) (ty := .int) (v := (((h 0 10) / (h 0 0)) + 1)) 0 (by decide) rfl rfl 17 (by decide) wnX6 wl77 rfl tyX6 tyX6_ok nmX6 rfl (by decide +kernel) rfl rfl (Nat.le_of_ble_eq_true rfl) rfl dX6_cut_37 ?_
    refine xr_aload_n C dX6_cut_40 0 rfl rfl ?_
    refine xr_get C (ci := 6) (Cn := RX6) (T := TX6) (N := 23) (v := .int (h 0 16)) 0 (by decide) rfl rfl 15 (by decide) wnX6 wl74 rfl rfl dX6_cut_41 ?_
    cases hf
    exact xr_iret C hlk hr dX6_cut_44
  · rw [if_pos cd1] at hf
    refine xr_iconst C (v := (-1)) dX6_cut_7 (by decide +kernel) ?_
    cases hf
    exact xr_iret C hlk hr dX6_cut_8
def f_X6_record (h0 : hp) (x1 : Int32) : Option Int32 := if h0 0 9 = 0 then (some (-1)) else (if x1 = 0 then (some (h0 0 10)) else (if x1 = 1 then (some (h0 0 11)) else (if x1 = 2 then (some (h0 0 15)) else (if x1 = 3 then (some (h0 0 17)) else (if x1 = 4 then (bR (f_X6_allPages h0) (fun rr8 => some rr8)) else (if x1 = 5 then (some (h0 0 21)) else (if x1 = 6 then (if h0 0 22 = 0 then (some 0) else (some 1)) else (some (-1)))))))))
abbrev rmX6_record : Room := { frames := 1, cells := 0, slots := 0, locals := 22 }
set_option maxHeartbeats 4000000 in
set_option maxRecDepth 100000 in
theorem c_X6_record (l : Launch) (dC : Nat → ClassId) (dI : Nat → Nat → Nat) (cI cZ : ClassId) (a : Nat → Nat) (hD : xD 11 a) (h0 : hp) (x1 : Int32) {r9 : Int32} (hf : f_X6_record h0 x1 = some r9) : XMi l yX6_record wsX6_record rmX6_record (dC, dI) vwCl (mty cI cZ) 11 a (mcf cI cZ a) h0 [.ref (a 0), .int x1] r9 h0 := by
  refine xm_i (cc := cX6_record) (maxL := 2) (ws' := wsX6_record.tail) (by decide) rfl hD (Nat.le_of_ble_eq_true rfl) [(0, .ref (a 0)), (1, .int x1)] rfl RX6 rfl ?_
  intro p e s m args below meth c C hlk hr
  have wl45 : Cond.fieldLink RX6 45 "RewindBoxModel" "records" "Z" ∈ wsX6_record := by decide +kernel
  have wnX6 : ∀ w ∈ u_ws RX6 TX6 23, w ∈ wsX6_record := by decide +kernel
  have wl65 : Cond.fieldLink RX6 65 "RewindBoxModel" "position" "I" ∈ wsX6_record := by decide +kernel
  have wl71 : Cond.fieldLink RX6 71 "RewindBoxModel" "end" "I" ∈ wsX6_record := by decide +kernel
  have wl74 : Cond.fieldLink RX6 74 "RewindBoxModel" "entries" "I" ∈ wsX6_record := by decide +kernel
  have wl77 : Cond.fieldLink RX6 77 "RewindBoxModel" "snapshots" "I" ∈ wsX6_record := by decide +kernel
  have wl80 : Cond.fieldLink RX6 80 "RewindBoxModel" "waiting" "I" ∈ wsX6_record := by decide +kernel
  have wl83 : Cond.fieldLink RX6 83 "RewindBoxModel" "rang" "Z" ∈ wsX6_record := by decide +kernel
  unfold f_X6_record at hf
  refine xr_aload_n C dX6_record_0 0 rfl rfl ?_
  refine xr_get C (ci := 6) (Cn := RX6) (T := TX6) (N := 23) (v := .int (h0 0 9)) 0 (by decide) rfl rfl 9 (by decide) wnX6 wl45 rfl rfl dX6_record_1 ?_
  refine xr_if_ne C 9 dX6_record_4 (by decide) (fun cd1 => ?_) (fun cd1 => ?_)
  · rw [if_neg cd1] at hf
    refine xr_iload_n C dX6_record_9 1 rfl rfl ?_
    by_cases cd2 : x1 = 0
    · rw [if_pos cd2] at hf
      refine xr_tableIn C 52 0 dX6_record_10 (by rw [cd2]; decide) (by decide) (by decide) rfl (by decide) ?_
      refine xr_aload_n C dX6_record_52 0 rfl rfl ?_
      refine xr_get C (ci := 6) (Cn := RX6) (T := TX6) (N := 23) (v := .int (h0 0 10)) 0 (by decide) rfl rfl 10 (by decide) wnX6 wl65 rfl rfl dX6_record_53 ?_
      cases hf
      exact xr_iret C hlk hr dX6_record_56
    rw [if_neg cd2] at hf
    by_cases cd3 : x1 = 1
    · rw [if_pos cd3] at hf
      refine xr_tableIn C 57 1 dX6_record_10 (by rw [cd3]; decide) (by decide) (by decide) rfl (by decide) ?_
      refine xr_aload_n C dX6_record_57 0 rfl rfl ?_
      refine xr_get C (ci := 6) (Cn := RX6) (T := TX6) (N := 23) (v := .int (h0 0 11)) 0 (by decide) rfl rfl 11 (by decide) wnX6 wl71 rfl rfl dX6_record_58 ?_
      cases hf
      exact xr_iret C hlk hr dX6_record_61
    rw [if_neg cd3] at hf
    by_cases cd4 : x1 = 2
    · rw [if_pos cd4] at hf
      refine xr_tableIn C 62 2 dX6_record_10 (by rw [cd4]; decide) (by decide) (by decide) rfl (by decide) ?_
      refine xr_aload_n C dX6_record_62 0 rfl rfl ?_
      refine xr_get C (ci := 6) (Cn := RX6) (T := TX6) (N := 23) (v := .int (h0 0 15)) 0 (by decide) rfl rfl 15 (by decide) wnX6 wl74 rfl rfl dX6_record_63 ?_
      cases hf
      exact xr_iret C hlk hr dX6_record_66
    rw [if_neg cd4] at hf
    by_cases cd5 : x1 = 3
    · rw [if_pos cd5] at hf
      refine xr_tableIn C 67 3 dX6_record_10 (by rw [cd5]; decide) (by decide) (by decide) rfl (by decide) ?_
      refine xr_aload_n C dX6_record_67 0 rfl rfl ?_
      refine xr_get C (ci := 6) (Cn := RX6) (T := TX6) (N := 23) (v := .int (h0 0 17)) 0 (by decide) rfl rfl 17 (by decide) wnX6 wl77 rfl rfl dX6_record_68 ?_
      cases hf
      exact xr_iret C hlk hr dX6_record_71
    rw [if_neg cd5] at hf
    by_cases cd6 : x1 = 4
    · rw [if_pos cd6] at hf
      refine xr_tableIn C 72 4 dX6_record_10 (by rw [cd6]; decide) (by decide) (by decide) rfl (by decide) ?_
      refine xr_aload_n C dX6_record_72 0 rfl rfl ?_
      obtain ⟨rr8, ee7, hf⟩ := bR_some hf
      refine xr_callVi C (Cn := RX6) 0 (by decide) rfl rfl [] [] (c_X6_allPages l dC dI cI cZ a hD h0 ee7) (cwV 0 C.2.2.1 gX6_record_X6_allPages rfl rfl rfl (by decide +kernel) ⟨Nat.le_of_ble_eq_true rfl, Nat.le_of_ble_eq_true rfl⟩) rfl rfl (Nat.le_of_ble_eq_true rfl) dX6_record_73 ?_
      cases hf
      exact xr_iret C hlk hr dX6_record_76
    rw [if_neg cd6] at hf
    by_cases cd9 : x1 = 5
    · rw [if_pos cd9] at hf
      refine xr_tableIn C 77 5 dX6_record_10 (by rw [cd9]; decide) (by decide) (by decide) rfl (by decide) ?_
      refine xr_aload_n C dX6_record_77 0 rfl rfl ?_
      refine xr_get C (ci := 6) (Cn := RX6) (T := TX6) (N := 23) (v := .int (h0 0 21)) 0 (by decide) rfl rfl 21 (by decide) wnX6 wl80 rfl rfl dX6_record_78 ?_
      cases hf
      exact xr_iret C hlk hr dX6_record_81
    rw [if_neg cd9] at hf
    by_cases cd10 : x1 = 6
    · rw [if_pos cd10] at hf
      refine xr_tableIn C 82 6 dX6_record_10 (by rw [cd10]; decide) (by decide) (by decide) rfl (by decide) ?_
      refine xr_aload_n C dX6_record_82 0 rfl rfl ?_
      refine xr_get C (ci := 6) (Cn := RX6) (T := TX6) (N := 23) (v := .int (h0 0 22)) 0 (by decide) rfl rfl 22 (by decide) wnX6 wl83 rfl rfl dX6_record_83 ?_
      refine xr_if_eq C 93 dX6_record_86 (by decide) (fun cd11 => ?_) (fun cd11 => ?_)
      · rw [if_pos cd11] at hf
        refine xr_iconst C (v := 0) dX6_record_93 (by decide +kernel) ?_
        cases hf
        exact xr_iret C hlk hr dX6_record_94
      · rw [if_neg cd11] at hf
        refine xr_iconst C (v := 1) dX6_record_89 (by decide +kernel) ?_
        refine xr_goto C 94 dX6_record_90 (by decide) ?_
        cases hf
        exact xr_iret C hlk hr dX6_record_94
    rw [if_neg cd10] at hf
    refine xr_tableOut C 95 dX6_record_10 (by have qcd2 := lv_neT cd2 (show Int32.toInt 0 = 0 from by decide); have qcd3 := lv_neT cd3 (show Int32.toInt 1 = 1 from by decide); have qcd4 := lv_neT cd4 (show Int32.toInt 2 = 2 from by decide); have qcd5 := lv_neT cd5 (show Int32.toInt 3 = 3 from by decide); have qcd6 := lv_neT cd6 (show Int32.toInt 4 = 4 from by decide); have qcd9 := lv_neT cd9 (show Int32.toInt 5 = 5 from by decide); have qcd10 := lv_neT cd10 (show Int32.toInt 6 = 6 from by decide); omega) (by decide) ?_
    refine xr_iconst C (v := (-1)) dX6_record_95 (by decide +kernel) ?_
    cases hf
    exact xr_iret C hlk hr dX6_record_96
  · rw [if_pos cd1] at hf
    refine xr_iconst C (v := (-1)) dX6_record_7 (by decide +kernel) ?_
    cases hf
    exact xr_iret C hlk hr dX6_record_8
def f_X6_pages (h0 : hp) (x1 : Int32) : Option Int32 := if h0 0 9 = 0 then (some (-1)) else (if x1 < 0 then (some (-1)) else (if h0 0 17 ≤ x1 then (some (-1)) else (gd (¬ (x1 < 0 ∨ 40 ≤ x1.toNatClampNeg)) (some (h0 8 x1.toNatClampNeg)))))
abbrev rmX6_pages : Room := { frames := 0, cells := 0, slots := 0, locals := 0 }
set_option maxHeartbeats 4000000 in
set_option maxRecDepth 100000 in
theorem c_X6_pages (l : Launch) (dC : Nat → ClassId) (dI : Nat → Nat → Nat) (cI cZ : ClassId) (a : Nat → Nat) (hD : xD 11 a) (h0 : hp) (x1 : Int32) {r9 : Int32} (hf : f_X6_pages h0 x1 = some r9) : XMi l yX6_pages wsX6_pages rmX6_pages (dC, dI) vwCl (mty cI cZ) 11 a (mcf cI cZ a) h0 [.ref (a 0), .int x1] r9 h0 := by
  refine xm_i (cc := cX6_pages) (maxL := 2) (ws' := wsX6_pages.tail) (by decide) rfl hD (Nat.le_of_ble_eq_true rfl) [(0, .ref (a 0)), (1, .int x1)] rfl RX6 rfl ?_
  intro p e s m args below meth c C hlk hr
  have wl45 : Cond.fieldLink RX6 45 "RewindBoxModel" "records" "Z" ∈ wsX6_pages := by decide +kernel
  have wnX6 : ∀ w ∈ u_ws RX6 TX6 23, w ∈ wsX6_pages := by decide +kernel
  have wl77 : Cond.fieldLink RX6 77 "RewindBoxModel" "snapshots" "I" ∈ wsX6_pages := by decide +kernel
  have wl31 : Cond.fieldLink RX6 31 "RewindBoxModel" "pagesOf" "[I" ∈ wsX6_pages := by decide +kernel
  unfold f_X6_pages at hf
  refine xr_aload_n C dX6_pages_0 0 rfl rfl ?_
  refine xr_get C (ci := 6) (Cn := RX6) (T := TX6) (N := 23) (v := .int (h0 0 9)) 0 (by decide) rfl rfl 9 (by decide) wnX6 wl45 rfl rfl dX6_pages_1 ?_
  refine xr_if_eq C 28 dX6_pages_4 (by decide) (fun cd1 => ?_) (fun cd1 => ?_)
  · rw [if_pos cd1] at hf
    refine xr_iconst C (v := (-1)) dX6_pages_28 (by decide +kernel) ?_
    cases hf
    exact xr_iret C hlk hr dX6_pages_29
  · rw [if_neg cd1] at hf
    refine xr_iload_n C dX6_pages_7 1 rfl rfl ?_
    refine xr_if_lt C 28 dX6_pages_8 (by decide) (fun cd2 => ?_) (fun cd2 => ?_)
    · rw [if_pos cd2] at hf
      refine xr_iconst C (v := (-1)) dX6_pages_28 (by decide +kernel) ?_
      cases hf
      exact xr_iret C hlk hr dX6_pages_29
    · rw [if_neg cd2] at hf
      refine xr_iload_n C dX6_pages_11 1 rfl rfl ?_
      refine xr_aload_n C dX6_pages_12 0 rfl rfl ?_
      refine xr_get C (ci := 6) (Cn := RX6) (T := TX6) (N := 23) (v := .int (h0 0 17)) 0 (by decide) rfl rfl 17 (by decide) wnX6 wl77 rfl rfl dX6_pages_13 ?_
      refine xr_icmp_ge C 28 dX6_pages_16 (by decide) (fun cd3 => ?_) (fun cd3 => ?_)
      · rw [if_pos cd3] at hf
        refine xr_iconst C (v := (-1)) dX6_pages_28 (by decide +kernel) ?_
        cases hf
        exact xr_iret C hlk hr dX6_pages_29
      · rw [if_neg cd3] at hf
        refine xr_aload_n C dX6_pages_19 0 rfl rfl ?_
        refine xr_get C (ci := 6) (Cn := RX6) (T := TX6) (N := 23) (v := .ref (a 8)) 0 (by decide) rfl rfl 18 (by decide) wnX6 wl31 rfl rfl dX6_pages_20 ?_
        refine xr_iload_n C dX6_pages_23 1 rfl rfl ?_
        obtain ⟨gg4, hf⟩ := gd_some hf
        refine xr_iald C (v := h0 8 x1.toNatClampNeg) 8 (by decide) 0 rfl rfl gg4 rfl dX6_pages_24 ?_
        refine xr_goto C 29 dX6_pages_25 (by decide) ?_
        cases hf
        exact xr_iret C hlk hr dX6_pages_29
def f_X6_log (h0 : hp) (x1 : Int32) (x2 : Int32) : Option Int32 := if h0 0 9 = 0 then (some (-1)) else (if x1 < 0 then (some (-1)) else (if x1 < h0 0 15 then (if x2 = 0 then (gd (¬ (x1 < 0 ∨ 300 ≤ x1.toNatClampNeg)) (some (h0 5 x1.toNatClampNeg))) else (if x2 = 1 then (gd (¬ (x1 < 0 ∨ 300 ≤ x1.toNatClampNeg)) (some (h0 6 x1.toNatClampNeg))) else (if x2 = 2 then (gd (¬ (x1 < 0 ∨ 300 ≤ x1.toNatClampNeg)) (some (h0 7 x1.toNatClampNeg))) else (some (-1))))) else (some (-1))))
abbrev rmX6_log : Room := { frames := 0, cells := 0, slots := 0, locals := 0 }
set_option maxHeartbeats 4000000 in
set_option maxRecDepth 100000 in
theorem c_X6_log (l : Launch) (dC : Nat → ClassId) (dI : Nat → Nat → Nat) (cI cZ : ClassId) (a : Nat → Nat) (hD : xD 11 a) (h0 : hp) (x1 : Int32) (x2 : Int32) {r9 : Int32} (hf : f_X6_log h0 x1 x2 = some r9) : XMi l yX6_log wsX6_log rmX6_log (dC, dI) vwCl (mty cI cZ) 11 a (mcf cI cZ a) h0 [.ref (a 0), .int x1, .int x2] r9 h0 := by
  refine xm_i (cc := cX6_log) (maxL := 3) (ws' := wsX6_log.tail) (by decide) rfl hD (Nat.le_of_ble_eq_true rfl) [(0, .ref (a 0)), (1, .int x1), (2, .int x2)] rfl RX6 rfl ?_
  intro p e s m args below meth c C hlk hr
  have wl45 : Cond.fieldLink RX6 45 "RewindBoxModel" "records" "Z" ∈ wsX6_log := by decide +kernel
  have wnX6 : ∀ w ∈ u_ws RX6 TX6 23, w ∈ wsX6_log := by decide +kernel
  have wl74 : Cond.fieldLink RX6 74 "RewindBoxModel" "entries" "I" ∈ wsX6_log := by decide +kernel
  have wl28 : Cond.fieldLink RX6 28 "RewindBoxModel" "logInput" "[I" ∈ wsX6_log := by decide +kernel
  have wl25 : Cond.fieldLink RX6 25 "RewindBoxModel" "logKind" "[I" ∈ wsX6_log := by decide +kernel
  have wl22 : Cond.fieldLink RX6 22 "RewindBoxModel" "logAt" "[I" ∈ wsX6_log := by decide +kernel
  unfold f_X6_log at hf
  refine xr_aload_n C dX6_log_0 0 rfl rfl ?_
  refine xr_get C (ci := 6) (Cn := RX6) (T := TX6) (N := 23) (v := .int (h0 0 9)) 0 (by decide) rfl rfl 9 (by decide) wnX6 wl45 rfl rfl dX6_log_1 ?_
  refine xr_if_eq C 19 dX6_log_4 (by decide) (fun cd1 => ?_) (fun cd1 => ?_)
  · rw [if_pos cd1] at hf
    refine xr_iconst C (v := (-1)) dX6_log_19 (by decide +kernel) ?_
    cases hf
    exact xr_iret C hlk hr dX6_log_20
  · rw [if_neg cd1] at hf
    refine xr_iload_n C dX6_log_7 1 rfl rfl ?_
    refine xr_if_lt C 19 dX6_log_8 (by decide) (fun cd2 => ?_) (fun cd2 => ?_)
    · rw [if_pos cd2] at hf
      refine xr_iconst C (v := (-1)) dX6_log_19 (by decide +kernel) ?_
      cases hf
      exact xr_iret C hlk hr dX6_log_20
    · rw [if_neg cd2] at hf
      refine xr_iload_n C dX6_log_11 1 rfl rfl ?_
      refine xr_aload_n C dX6_log_12 0 rfl rfl ?_
      refine xr_get C (ci := 6) (Cn := RX6) (T := TX6) (N := 23) (v := .int (h0 0 15)) 0 (by decide) rfl rfl 15 (by decide) wnX6 wl74 rfl rfl dX6_log_13 ?_
      refine xr_icmp_lt C 21 dX6_log_16 (by decide) (fun cd3 => ?_) (fun cd3 => ?_)
      · rw [if_pos cd3] at hf
        refine xr_iload_n C dX6_log_21 2 rfl rfl ?_
        refine xr_if_ne C 34 dX6_log_22 (by decide) (fun cd4 => ?_) (fun cd4 => ?_)
        · rw [if_neg cd4] at hf
          refine xr_iload_n C dX6_log_34 2 rfl rfl ?_
          refine xr_iconst C (v := 1) dX6_log_35 (by decide +kernel) ?_
          refine xr_icmp_ne C 48 dX6_log_36 (by decide) (fun cd5 => ?_) (fun cd5 => ?_)
          · rw [if_neg cd5] at hf
            refine xr_iload_n C dX6_log_48 2 rfl rfl ?_
            refine xr_iconst C (v := 2) dX6_log_49 (by decide +kernel) ?_
            refine xr_icmp_ne C 62 dX6_log_50 (by decide) (fun cd6 => ?_) (fun cd6 => ?_)
            · rw [if_neg cd6] at hf
              refine xr_iconst C (v := (-1)) dX6_log_62 (by decide +kernel) ?_
              cases hf
              exact xr_iret C hlk hr dX6_log_63
            · rw [if_pos cd6] at hf
              refine xr_aload_n C dX6_log_53 0 rfl rfl ?_
              refine xr_get C (ci := 6) (Cn := RX6) (T := TX6) (N := 23) (v := .ref (a 7)) 0 (by decide) rfl rfl 14 (by decide) wnX6 wl28 rfl rfl dX6_log_54 ?_
              refine xr_iload_n C dX6_log_57 1 rfl rfl ?_
              obtain ⟨gg7, hf⟩ := gd_some hf
              refine xr_iald C (v := h0 7 x1.toNatClampNeg) 7 (by decide) 0 rfl rfl gg7 rfl dX6_log_58 ?_
              refine xr_goto C 63 dX6_log_59 (by decide) ?_
              cases hf
              exact xr_iret C hlk hr dX6_log_63
          · rw [if_pos cd5] at hf
            refine xr_aload_n C dX6_log_39 0 rfl rfl ?_
            refine xr_get C (ci := 6) (Cn := RX6) (T := TX6) (N := 23) (v := .ref (a 6)) 0 (by decide) rfl rfl 13 (by decide) wnX6 wl25 rfl rfl dX6_log_40 ?_
            refine xr_iload_n C dX6_log_43 1 rfl rfl ?_
            obtain ⟨gg8, hf⟩ := gd_some hf
            refine xr_iald C (v := h0 6 x1.toNatClampNeg) 6 (by decide) 0 rfl rfl gg8 rfl dX6_log_44 ?_
            refine xr_goto C 63 dX6_log_45 (by decide) ?_
            cases hf
            exact xr_iret C hlk hr dX6_log_63
        · rw [if_pos cd4] at hf
          refine xr_aload_n C dX6_log_25 0 rfl rfl ?_
          refine xr_get C (ci := 6) (Cn := RX6) (T := TX6) (N := 23) (v := .ref (a 5)) 0 (by decide) rfl rfl 12 (by decide) wnX6 wl22 rfl rfl dX6_log_26 ?_
          refine xr_iload_n C dX6_log_29 1 rfl rfl ?_
          obtain ⟨gg9, hf⟩ := gd_some hf
          refine xr_iald C (v := h0 5 x1.toNatClampNeg) 5 (by decide) 0 rfl rfl gg9 rfl dX6_log_30 ?_
          refine xr_goto C 63 dX6_log_31 (by decide) ?_
          cases hf
          exact xr_iret C hlk hr dX6_log_63
      · rw [if_neg cd3] at hf
        refine xr_iconst C (v := (-1)) dX6_log_19 (by decide +kernel) ?_
        cases hf
        exact xr_iret C hlk hr dX6_log_20
def f_X6_register (h0 : hp) (x1 : Int32) : Option Int32 := if x1 < 0 then (if x1 = 8 then (some (h0 0 4)) else (if x1 = 9 then (some (h0 0 5)) else (if x1 = 10 then (if h0 0 6 = 0 then (some 0) else (some 1)) else (some 0)))) else (if 8 ≤ x1 then (if x1 = 8 then (some (h0 0 4)) else (if x1 = 9 then (some (h0 0 5)) else (if x1 = 10 then (if h0 0 6 = 0 then (some 0) else (some 1)) else (some 0)))) else (gd (¬ (x1 < 0 ∨ 8 ≤ x1.toNatClampNeg)) (some (h0 3 x1.toNatClampNeg))))
abbrev rmX6_register : Room := { frames := 0, cells := 0, slots := 0, locals := 0 }
set_option maxHeartbeats 4000000 in
set_option maxRecDepth 100000 in
theorem c_X6_register (l : Launch) (dC : Nat → ClassId) (dI : Nat → Nat → Nat) (cI cZ : ClassId) (a : Nat → Nat) (hD : xD 11 a) (h0 : hp) (x1 : Int32) {r9 : Int32} (hf : f_X6_register h0 x1 = some r9) : XMi l yX6_register wsX6_register rmX6_register (dC, dI) vwCl (mty cI cZ) 11 a (mcf cI cZ a) h0 [.ref (a 0), .int x1] r9 h0 := by
  refine xm_i (cc := cX6_register) (maxL := 2) (ws' := wsX6_register.tail) (by decide) rfl hD (Nat.le_of_ble_eq_true rfl) [(0, .ref (a 0)), (1, .int x1)] rfl RX6 rfl ?_
  intro p e s m args below meth c C hlk hr
  have wl59 : Cond.fieldLink RX6 59 "RewindBoxModel" "open" "Z" ∈ wsX6_register := by decide +kernel
  have wnX6 : ∀ w ∈ u_ws RX6 TX6 23, w ∈ wsX6_register := by decide +kernel
  have wl56 : Cond.fieldLink RX6 56 "RewindBoxModel" "back" "I" ∈ wsX6_register := by decide +kernel
  have wl53 : Cond.fieldLink RX6 53 "RewindBoxModel" "pc" "I" ∈ wsX6_register := by decide +kernel
  have wl16 : Cond.fieldLink RX6 16 "RewindBoxModel" "registers" "[I" ∈ wsX6_register := by decide +kernel
  unfold f_X6_register at hf
  refine xr_iload_n C dX6_register_0 1 rfl rfl ?_
  refine xr_if_lt C 17 dX6_register_1 (by decide) (fun cd1 => ?_) (fun cd1 => ?_)
  · rw [if_pos cd1] at hf
    refine xr_iload_n C dX6_register_17 1 rfl rfl ?_
    refine xr_bipush C (v := 8) dX6_register_18 (by decide +kernel) ?_
    refine xr_icmp_ne C 30 dX6_register_20 (by decide) (fun cd2 => ?_) (fun cd2 => ?_)
    · rw [if_neg cd2] at hf
      refine xr_iload_n C dX6_register_30 1 rfl rfl ?_
      refine xr_bipush C (v := 9) dX6_register_31 (by decide +kernel) ?_
      refine xr_icmp_ne C 43 dX6_register_33 (by decide) (fun cd3 => ?_) (fun cd3 => ?_)
      · rw [if_neg cd3] at hf
        refine xr_iload_n C dX6_register_43 1 rfl rfl ?_
        refine xr_bipush C (v := 10) dX6_register_44 (by decide +kernel) ?_
        refine xr_icmp_ne C 60 dX6_register_46 (by decide) (fun cd4 => ?_) (fun cd4 => ?_)
        · rw [if_neg cd4] at hf
          refine xr_iconst C (v := 0) dX6_register_60 (by decide +kernel) ?_
          cases hf
          exact xr_iret C hlk hr dX6_register_61
        · rw [if_pos cd4] at hf
          refine xr_aload_n C dX6_register_49 0 rfl rfl ?_
          refine xr_get C (ci := 6) (Cn := RX6) (T := TX6) (N := 23) (v := .int (h0 0 6)) 0 (by decide) rfl rfl 6 (by decide) wnX6 wl59 rfl rfl dX6_register_50 ?_
          refine xr_if_eq C 60 dX6_register_53 (by decide) (fun cd5 => ?_) (fun cd5 => ?_)
          · rw [if_pos cd5] at hf
            refine xr_iconst C (v := 0) dX6_register_60 (by decide +kernel) ?_
            cases hf
            exact xr_iret C hlk hr dX6_register_61
          · rw [if_neg cd5] at hf
            refine xr_iconst C (v := 1) dX6_register_56 (by decide +kernel) ?_
            refine xr_goto C 61 dX6_register_57 (by decide) ?_
            cases hf
            exact xr_iret C hlk hr dX6_register_61
      · rw [if_pos cd3] at hf
        refine xr_aload_n C dX6_register_36 0 rfl rfl ?_
        refine xr_get C (ci := 6) (Cn := RX6) (T := TX6) (N := 23) (v := .int (h0 0 5)) 0 (by decide) rfl rfl 5 (by decide) wnX6 wl56 rfl rfl dX6_register_37 ?_
        refine xr_goto C 61 dX6_register_40 (by decide) ?_
        cases hf
        exact xr_iret C hlk hr dX6_register_61
    · rw [if_pos cd2] at hf
      refine xr_aload_n C dX6_register_23 0 rfl rfl ?_
      refine xr_get C (ci := 6) (Cn := RX6) (T := TX6) (N := 23) (v := .int (h0 0 4)) 0 (by decide) rfl rfl 4 (by decide) wnX6 wl53 rfl rfl dX6_register_24 ?_
      refine xr_goto C 61 dX6_register_27 (by decide) ?_
      cases hf
      exact xr_iret C hlk hr dX6_register_61
  · rw [if_neg cd1] at hf
    refine xr_iload_n C dX6_register_4 1 rfl rfl ?_
    refine xr_bipush C (v := 8) dX6_register_5 (by decide +kernel) ?_
    refine xr_icmp_ge C 17 dX6_register_7 (by decide) (fun cd6 => ?_) (fun cd6 => ?_)
    · rw [if_pos cd6] at hf
      refine xr_iload_n C dX6_register_17 1 rfl rfl ?_
      refine xr_bipush C (v := 8) dX6_register_18 (by decide +kernel) ?_
      refine xr_icmp_ne C 30 dX6_register_20 (by decide) (fun cd7 => ?_) (fun cd7 => ?_)
      · rw [if_neg cd7] at hf
        refine xr_iload_n C dX6_register_30 1 rfl rfl ?_
        refine xr_bipush C (v := 9) dX6_register_31 (by decide +kernel) ?_
        refine xr_icmp_ne C 43 dX6_register_33 (by decide) (fun cd8 => ?_) (fun cd8 => ?_)
        · rw [if_neg cd8] at hf
          refine xr_iload_n C dX6_register_43 1 rfl rfl ?_
          refine xr_bipush C (v := 10) dX6_register_44 (by decide +kernel) ?_
          refine xr_icmp_ne C 60 dX6_register_46 (by decide) (fun cd9 => ?_) (fun cd9 => ?_)
          · rw [if_neg cd9] at hf
            refine xr_iconst C (v := 0) dX6_register_60 (by decide +kernel) ?_
            cases hf
            exact xr_iret C hlk hr dX6_register_61
          · rw [if_pos cd9] at hf
            refine xr_aload_n C dX6_register_49 0 rfl rfl ?_
            refine xr_get C (ci := 6) (Cn := RX6) (T := TX6) (N := 23) (v := .int (h0 0 6)) 0 (by decide) rfl rfl 6 (by decide) wnX6 wl59 rfl rfl dX6_register_50 ?_
            refine xr_if_eq C 60 dX6_register_53 (by decide) (fun cd10 => ?_) (fun cd10 => ?_)
            · rw [if_pos cd10] at hf
              refine xr_iconst C (v := 0) dX6_register_60 (by decide +kernel) ?_
              cases hf
              exact xr_iret C hlk hr dX6_register_61
            · rw [if_neg cd10] at hf
              refine xr_iconst C (v := 1) dX6_register_56 (by decide +kernel) ?_
              refine xr_goto C 61 dX6_register_57 (by decide) ?_
              cases hf
              exact xr_iret C hlk hr dX6_register_61
        · rw [if_pos cd8] at hf
          refine xr_aload_n C dX6_register_36 0 rfl rfl ?_
          refine xr_get C (ci := 6) (Cn := RX6) (T := TX6) (N := 23) (v := .int (h0 0 5)) 0 (by decide) rfl rfl 5 (by decide) wnX6 wl56 rfl rfl dX6_register_37 ?_
          refine xr_goto C 61 dX6_register_40 (by decide) ?_
          cases hf
          exact xr_iret C hlk hr dX6_register_61
      · rw [if_pos cd7] at hf
        refine xr_aload_n C dX6_register_23 0 rfl rfl ?_
        refine xr_get C (ci := 6) (Cn := RX6) (T := TX6) (N := 23) (v := .int (h0 0 4)) 0 (by decide) rfl rfl 4 (by decide) wnX6 wl53 rfl rfl dX6_register_24 ?_
        refine xr_goto C 61 dX6_register_27 (by decide) ?_
        cases hf
        exact xr_iret C hlk hr dX6_register_61
    · rw [if_neg cd6] at hf
      refine xr_aload_n C dX6_register_10 0 rfl rfl ?_
      refine xr_get C (ci := 6) (Cn := RX6) (T := TX6) (N := 23) (v := .ref (a 3)) 0 (by decide) rfl rfl 3 (by decide) wnX6 wl16 rfl rfl dX6_register_11 ?_
      refine xr_iload_n C dX6_register_14 1 rfl rfl ?_
      obtain ⟨gg11, hf⟩ := gd_some hf
      refine xr_iald C (v := h0 3 x1.toNatClampNeg) 3 (by decide) 0 rfl rfl gg11 rfl dX6_register_15 ?_
      cases hf
      exact xr_iret C hlk hr dX6_register_16
def f_X6_word (h0 : hp) (x1 : Int32) : Option Int32 := if (f_X6_isPlace x1) = 0 then (some 0) else (gd (¬ (x1 < 0 ∨ 512 ≤ x1.toNatClampNeg)) (some (h0 2 x1.toNatClampNeg)))
abbrev rmX6_word : Room := { frames := 1, cells := 0, slots := 0, locals := 20 }
set_option maxHeartbeats 4000000 in
set_option maxRecDepth 100000 in
theorem c_X6_word (l : Launch) (dC : Nat → ClassId) (dI : Nat → Nat → Nat) (cI cZ : ClassId) (a : Nat → Nat) (hD : xD 11 a) (h0 : hp) (x1 : Int32) {r9 : Int32} (hf : f_X6_word h0 x1 = some r9) : XMi l yX6_word wsX6_word rmX6_word (dC, dI) vwCl (mty cI cZ) 11 a (mcf cI cZ a) h0 [.ref (a 0), .int x1] r9 h0 := by
  refine xm_i (cc := cX6_word) (maxL := 2) (ws' := wsX6_word.tail) (by decide) rfl hD (Nat.le_of_ble_eq_true rfl) [(0, .ref (a 0)), (1, .int x1)] rfl RX6 rfl ?_
  intro p e s m args below meth c C hlk hr
  have wl13 : Cond.fieldLink RX6 13 "RewindBoxModel" "memory" "[I" ∈ wsX6_word := by decide +kernel
  have wnX6 : ∀ w ∈ u_ws RX6 TX6 23, w ∈ wsX6_word := by decide +kernel
  unfold f_X6_word at hf
  refine xr_iload_n C dX6_word_0 1 rfl rfl ?_
  refine xr_callSi C [.int x1] [] (c_X6_isPlace l dC dI cI cZ a hD h0 x1 rfl) (va_cwS 1 C.2.2.1 gX6_word_X6_isPlace rfl rfl rfl (by decide +kernel) ⟨Nat.le_of_ble_eq_true rfl, Nat.le_of_ble_eq_true rfl⟩) rfl rfl (Nat.le_of_ble_eq_true rfl) dX6_word_1 ?_
  refine xr_if_eq C 16 dX6_word_4 (by decide) (fun cd1 => ?_) (fun cd1 => ?_)
  · rw [if_pos cd1] at hf
    refine xr_iconst C (v := 0) dX6_word_16 (by decide +kernel) ?_
    cases hf
    exact xr_iret C hlk hr dX6_word_17
  · rw [if_neg cd1] at hf
    refine xr_aload_n C dX6_word_7 0 rfl rfl ?_
    refine xr_get C (ci := 6) (Cn := RX6) (T := TX6) (N := 23) (v := .ref (a 2)) 0 (by decide) rfl rfl 2 (by decide) wnX6 wl13 rfl rfl dX6_word_8 ?_
    refine xr_iload_n C dX6_word_11 1 rfl rfl ?_
    obtain ⟨gg2, hf⟩ := gd_some hf
    refine xr_iald C (v := h0 2 x1.toNatClampNeg) 2 (by decide) 0 rfl rfl gg2 rfl dX6_word_12 ?_
    refine xr_goto C 17 dX6_word_13 (by decide) ?_
    cases hf
    exact xr_iret C hlk hr dX6_word_17
def f_X6_outs (h0 : hp)  : Option Int32 := some (h0 0 8)
abbrev rmX6_outs : Room := { frames := 0, cells := 0, slots := 0, locals := 0 }
set_option maxHeartbeats 4000000 in
set_option maxRecDepth 100000 in
theorem c_X6_outs (l : Launch) (dC : Nat → ClassId) (dI : Nat → Nat → Nat) (cI cZ : ClassId) (a : Nat → Nat) (hD : xD 11 a) (h0 : hp)  {r9 : Int32} (hf : f_X6_outs h0  = some r9) : XMi l yX6_outs wsX6_outs rmX6_outs (dC, dI) vwCl (mty cI cZ) 11 a (mcf cI cZ a) h0 [.ref (a 0)] r9 h0 := by
  refine xm_i (cc := cX6_outs) (maxL := 1) (ws' := wsX6_outs.tail) (by decide) rfl hD (Nat.le_of_ble_eq_true rfl) [(0, .ref (a 0))] rfl RX6 rfl ?_
  intro p e s m args below meth c C hlk hr
  have wl62 : Cond.fieldLink RX6 62 "RewindBoxModel" "sent" "I" ∈ wsX6_outs := by decide +kernel
  have wnX6 : ∀ w ∈ u_ws RX6 TX6 23, w ∈ wsX6_outs := by decide +kernel
  unfold f_X6_outs at hf
  refine xr_aload_n C dX6_outs_0 0 rfl rfl ?_
  refine xr_get C (ci := 6) (Cn := RX6) (T := TX6) (N := 23) (v := .int (h0 0 8)) 0 (by decide) rfl rfl 8 (by decide) wnX6 wl62 rfl rfl dX6_outs_1 ?_
  cases hf
  exact xr_iret C hlk hr dX6_outs_4
def f_X6_out (h0 : hp) (x1 : Int32) : Option Int32 := if x1 < 0 then (some 0) else (if h0 0 8 ≤ x1 then (some 0) else (if 64 ≤ x1 then (some 0) else (gd (¬ (x1 < 0 ∨ 64 ≤ x1.toNatClampNeg)) (some (h0 4 x1.toNatClampNeg)))))
abbrev rmX6_out : Room := { frames := 0, cells := 0, slots := 0, locals := 0 }
set_option maxHeartbeats 4000000 in
set_option maxRecDepth 100000 in
theorem c_X6_out (l : Launch) (dC : Nat → ClassId) (dI : Nat → Nat → Nat) (cI cZ : ClassId) (a : Nat → Nat) (hD : xD 11 a) (h0 : hp) (x1 : Int32) {r9 : Int32} (hf : f_X6_out h0 x1 = some r9) : XMi l yX6_out wsX6_out rmX6_out (dC, dI) vwCl (mty cI cZ) 11 a (mcf cI cZ a) h0 [.ref (a 0), .int x1] r9 h0 := by
  refine xm_i (cc := cX6_out) (maxL := 2) (ws' := wsX6_out.tail) (by decide) rfl hD (Nat.le_of_ble_eq_true rfl) [(0, .ref (a 0)), (1, .int x1)] rfl RX6 rfl ?_
  intro p e s m args below meth c C hlk hr
  have wl62 : Cond.fieldLink RX6 62 "RewindBoxModel" "sent" "I" ∈ wsX6_out := by decide +kernel
  have wnX6 : ∀ w ∈ u_ws RX6 TX6 23, w ∈ wsX6_out := by decide +kernel
  have wl19 : Cond.fieldLink RX6 19 "RewindBoxModel" "kept" "[I" ∈ wsX6_out := by decide +kernel
  unfold f_X6_out at hf
  refine xr_iload_n C dX6_out_0 1 rfl rfl ?_
  refine xr_if_lt C 27 dX6_out_1 (by decide) (fun cd1 => ?_) (fun cd1 => ?_)
  · rw [if_pos cd1] at hf
    refine xr_iconst C (v := 0) dX6_out_27 (by decide +kernel) ?_
    cases hf
    exact xr_iret C hlk hr dX6_out_28
  · rw [if_neg cd1] at hf
    refine xr_iload_n C dX6_out_4 1 rfl rfl ?_
    refine xr_aload_n C dX6_out_5 0 rfl rfl ?_
    refine xr_get C (ci := 6) (Cn := RX6) (T := TX6) (N := 23) (v := .int (h0 0 8)) 0 (by decide) rfl rfl 8 (by decide) wnX6 wl62 rfl rfl dX6_out_6 ?_
    refine xr_icmp_ge C 27 dX6_out_9 (by decide) (fun cd2 => ?_) (fun cd2 => ?_)
    · rw [if_pos cd2] at hf
      refine xr_iconst C (v := 0) dX6_out_27 (by decide +kernel) ?_
      cases hf
      exact xr_iret C hlk hr dX6_out_28
    · rw [if_neg cd2] at hf
      refine xr_iload_n C dX6_out_12 1 rfl rfl ?_
      refine xr_bipush C (v := 64) dX6_out_13 (by decide +kernel) ?_
      refine xr_icmp_ge C 27 dX6_out_15 (by decide) (fun cd3 => ?_) (fun cd3 => ?_)
      · rw [if_pos cd3] at hf
        refine xr_iconst C (v := 0) dX6_out_27 (by decide +kernel) ?_
        cases hf
        exact xr_iret C hlk hr dX6_out_28
      · rw [if_neg cd3] at hf
        refine xr_aload_n C dX6_out_18 0 rfl rfl ?_
        refine xr_get C (ci := 6) (Cn := RX6) (T := TX6) (N := 23) (v := .ref (a 4)) 0 (by decide) rfl rfl 7 (by decide) wnX6 wl19 rfl rfl dX6_out_19 ?_
        refine xr_iload_n C dX6_out_22 1 rfl rfl ?_
        obtain ⟨gg4, hf⟩ := gd_some hf
        refine xr_iald C (v := h0 4 x1.toNatClampNeg) 4 (by decide) 0 rfl rfl gg4 rfl dX6_out_23 ?_
        refine xr_goto C 28 dX6_out_24 (by decide) ?_
        cases hf
        exact xr_iret C hlk hr dX6_out_28
