def f_X6_live_162 (h : hp)  : Option (Int32 × hp) := gd (¬ (h 0 0) = 0) (if (((h 0 11) + 1) - ((h 0 11) + 1) / (h 0 0) * (h 0 0)) = 0 then (bR (f_X6_writtenPages (u2 h 0 11 ((h 0 11) + 1))) (fun rr16 => gd (¬ ((h 0 17) < 0 ∨ 40 ≤ (h 0 17).toNatClampNeg)) (bV (f_X6_pass (u2 (u2 (u2 h 0 11 ((h 0 11) + 1)) 8 (h 0 17).toNatClampNeg rr16) 0 17 ((h 0 17) + 1))) (fun hh19 => some (1, hh19))))) else (bV (f_X6_pass (u2 h 0 11 ((h 0 11) + 1))) (fun hh14 => some (1, hh14))))
def f_X6_live (h : hp)  : Option (Int32 × hp) := if h 0 22 = 0 then (gd (¬ ((h 0 4) < 0 ∨ 512 ≤ (h 0 4).toNatClampNeg)) (gl (h 2 (h 0 4).toNatClampNeg) (fun v3 => if ((v3.toUInt32 >>> ((24 : Int32).toUInt32 &&& Int32.toUInt32 31)).toInt32) = 12 then (if ((v3.toUInt32 >>> ((24 : Int32).toUInt32 &&& Int32.toUInt32 31)).toInt32) = 0 then (some (0, h)) else (if h 0 21 = 0 then (some (0, h)) else (if h 0 15 = 300 then (some (0, h)) else (bR (f_X6_isFull h 0 v3) (fun rr24 => if rr24 = 0 then (bM (f_X6_takeInput h) (fun rr27 hh28 => bV (f_X6_note hh28 1 rr27) (fun hh30 => bV (f_X6_instruct hh30 v3 rr27) (fun hh32 => f_X6_live_162 hh32 )))) else (some (0, h))))))) else (if ((v3.toUInt32 >>> ((24 : Int32).toUInt32 &&& Int32.toUInt32 31)).toInt32) = 0 then (some (0, h)) else (bR (f_X6_isFull h 0 v3) (fun rr7 => if rr7 = 0 then (bV (f_X6_instruct h v3 0) (fun hh10 => f_X6_live_162 hh10 )) else (some (0, h)))))))) else (if h 0 6 = 0 then (gd (¬ ((h 0 4) < 0 ∨ 512 ≤ (h 0 4).toNatClampNeg)) (gl (h 2 (h 0 4).toNatClampNeg) (fun v35 => if ((v35.toUInt32 >>> ((24 : Int32).toUInt32 &&& Int32.toUInt32 31)).toInt32) = 12 then (if ((v35.toUInt32 >>> ((24 : Int32).toUInt32 &&& Int32.toUInt32 31)).toInt32) = 0 then (some (0, h)) else (if h 0 21 = 0 then (some (0, h)) else (if h 0 15 = 300 then (some (0, h)) else (bR (f_X6_isFull h 0 v35) (fun rr47 => if rr47 = 0 then (bM (f_X6_takeInput h) (fun rr50 hh51 => bV (f_X6_note hh51 1 rr50) (fun hh53 => bV (f_X6_instruct hh53 v35 rr50) (fun hh55 => f_X6_live_162 hh55 )))) else (some (0, h))))))) else (if ((v35.toUInt32 >>> ((24 : Int32).toUInt32 &&& Int32.toUInt32 31)).toInt32) = 0 then (some (0, h)) else (bR (f_X6_isFull h 0 v35) (fun rr39 => if rr39 = 0 then (bV (f_X6_instruct h v35 0) (fun hh42 => f_X6_live_162 hh42 )) else (some (0, h)))))))) else (gd (¬ ((h 0 4) < 0 ∨ 512 ≤ (h 0 4).toNatClampNeg)) (gl (h 2 (h 0 4).toNatClampNeg) (fun v57 => if h 0 15 = 300 then (some (0, h)) else (bR (f_X6_isFull h 1 v57) (fun rr60 => if rr60 = 0 then (bV (f_X6_note h 2 0) (fun hh63 => bV (f_X6_interrupt (u2 hh63 0 22 0)) (fun hh65 => f_X6_live_162 hh65 ))) else (some (0, h))))))))
abbrev rmX6_live : Room := { frames := 3, cells := 0, slots := 0, locals := 69 }
set_option maxHeartbeats 4000000 in
set_option maxRecDepth 100000 in
theorem c_X6_live (l : Launch) (dC : Nat → ClassId) (dI : Nat → Nat → Nat) (cI cZ : ClassId) (a : Nat → Nat) (hD : xD 11 a) (h : hp)  {r9 : Int32} {h9 : hp} (hf : f_X6_live h  = some (r9, h9)) : XMi l yX6_live wsX6_live rmX6_live (dC, dI) vwCl (mty cI cZ) 11 a (mcf cI cZ a) h [.ref (a 0)] r9 h9 := by
  refine xm_i (cc := cX6_live) (maxL := 5) (ws' := wsX6_live.tail) (by decide) rfl hD (Nat.le_of_ble_eq_true rfl) [(0, .ref (a 0))] rfl RX6 rfl ?_
  intro p e s m args below meth c C hlk hr
  have wl83 : Cond.fieldLink RX6 83 "RewindBoxModel" "rang" "Z" ∈ wsX6_live := by decide +kernel
  have wnX6 : ∀ w ∈ u_ws RX6 TX6 23, w ∈ wsX6_live := by decide +kernel
  have wl13 : Cond.fieldLink RX6 13 "RewindBoxModel" "memory" "[I" ∈ wsX6_live := by decide +kernel
  have wl53 : Cond.fieldLink RX6 53 "RewindBoxModel" "pc" "I" ∈ wsX6_live := by decide +kernel
  have wl71 : Cond.fieldLink RX6 71 "RewindBoxModel" "end" "I" ∈ wsX6_live := by decide +kernel
  have wl41 : Cond.fieldLink RX6 41 "RewindBoxModel" "interval" "I" ∈ wsX6_live := by decide +kernel
  have wl31 : Cond.fieldLink RX6 31 "RewindBoxModel" "pagesOf" "[I" ∈ wsX6_live := by decide +kernel
  have wl77 : Cond.fieldLink RX6 77 "RewindBoxModel" "snapshots" "I" ∈ wsX6_live := by decide +kernel
  have wl80 : Cond.fieldLink RX6 80 "RewindBoxModel" "waiting" "I" ∈ wsX6_live := by decide +kernel
  have wl74 : Cond.fieldLink RX6 74 "RewindBoxModel" "entries" "I" ∈ wsX6_live := by decide +kernel
  have wl59 : Cond.fieldLink RX6 59 "RewindBoxModel" "open" "Z" ∈ wsX6_live := by decide +kernel
  have lab162 : ∀ (h : hp)  , f_X6_live_162 h  = some (r9, h9) → XJ p l e rmX6_live s m args below meth c (dC, dI) vwCl 11 a (mcf cI cZ a) 5 (MQ below (XQi (dC, dI) vwCl 11 a (mcf cI cZ a) r9 h9) args s 0 0 (xA 11 a)) h [(0, .ref (a 0))] [] 162 := by
    intro h   hf
    unfold f_X6_live_162 at hf
    refine xr_aload_n C dX6_live_162 0 rfl rfl ?_
    refine xr_dup C dX6_live_163 rfl ?_
    refine xr_get C (ci := 6) (Cn := RX6) (T := TX6) (N := 23) (v := .int (h 0 11)) 0 (by decide) rfl rfl 11 (by decide) wnX6 wl71 rfl rfl dX6_live_164 ?_
    refine xr_iconst C (v := 1) dX6_live_167 (by decide +kernel) ?_
    refine xr_iadd C dX6_live_168 ?_
    refine xr_put C (ci := 6) (Cn := RX6) (T := TX6) (N := 23) (ty := .int) (v := ((h 0 11) + 1)) 0 (by decide) rfl rfl 11 (by decide) wnX6 wl71 rfl tyX6 tyX6_ok nmX6 rfl (by decide +kernel) rfl rfl (Nat.le_of_ble_eq_true rfl) rfl dX6_live_169 ?_
    refine xr_aload_n C dX6_live_172 0 rfl rfl ?_
    refine xr_get C (ci := 6) (Cn := RX6) (T := TX6) (N := 23) (v := .int ((h 0 11) + 1)) 0 (by decide) rfl rfl 11 (by decide) wnX6 wl71 rfl rfl dX6_live_173 ?_
    refine xr_aload_n C dX6_live_176 0 rfl rfl ?_
    refine xr_get C (ci := 6) (Cn := RX6) (T := TX6) (N := 23) (v := .int (h 0 0)) 0 (by decide) rfl rfl 0 (by decide) wnX6 wl41 rfl rfl dX6_live_177 ?_
    obtain ⟨gg11, hf⟩ := gd_some hf
    refine xr_irem C dX6_live_180 gg11 ?_
    refine xr_if_ne C 207 dX6_live_181 (by decide) (fun cd12 => ?_) (fun cd12 => ?_)
    · rw [if_neg cd12] at hf
      refine xr_aload_n C dX6_live_207 0 rfl rfl ?_
      obtain ⟨hh14, ee13, hf⟩ := bV_some hf
      refine xr_callVv C (Cn := RX6) 0 (by decide) rfl rfl [] [] (c_X6_pass l dC dI cI cZ a hD (u2 h 0 11 ((h 0 11) + 1)) ee13) (cwV 0 C.2.2.1 gX6_live_X6_pass rfl rfl rfl (by decide +kernel) ⟨Nat.le_of_ble_eq_true rfl, Nat.le_of_ble_eq_true rfl⟩) rfl rfl (Nat.le_of_ble_eq_true rfl) dX6_live_208 ?_
      refine xr_iconst C (v := 1) dX6_live_211 (by decide +kernel) ?_
      cases hf
      exact xr_zret C hlk hr (by decide +kernel) dX6_live_212
    · rw [if_pos cd12] at hf
      refine xr_aload_n C dX6_live_184 0 rfl rfl ?_
      refine xr_get C (ci := 6) (Cn := RX6) (T := TX6) (N := 23) (v := .ref (a 8)) 0 (by decide) rfl rfl 18 (by decide) wnX6 wl31 rfl rfl dX6_live_185 ?_
      refine xr_aload_n C dX6_live_188 0 rfl rfl ?_
      refine xr_get C (ci := 6) (Cn := RX6) (T := TX6) (N := 23) (v := .int (h 0 17)) 0 (by decide) rfl rfl 17 (by decide) wnX6 wl77 rfl rfl dX6_live_189 ?_
      refine xr_aload_n C dX6_live_192 0 rfl rfl ?_
      obtain ⟨rr16, ee15, hf⟩ := bR_some hf
      refine xr_callVi C (Cn := RX6) 0 (by decide) rfl rfl [] [.int (h 0 17), .ref (a 8)] (c_X6_writtenPages l dC dI cI cZ a hD (u2 h 0 11 ((h 0 11) + 1)) ee15) (cwV 0 C.2.2.1 gX6_live_X6_writtenPages rfl rfl rfl (by decide +kernel) ⟨Nat.le_of_ble_eq_true rfl, Nat.le_of_ble_eq_true rfl⟩) rfl rfl (Nat.le_of_ble_eq_true rfl) dX6_live_193 ?_
      obtain ⟨gg17, hf⟩ := gd_some hf
      refine xr_iast C 8 (by decide) 0 (fun _ => rfl) rfl gg17 dX6_live_196 ?_
      refine xr_aload_n C dX6_live_197 0 rfl rfl ?_
      refine xr_dup C dX6_live_198 rfl ?_
      refine xr_get C (ci := 6) (Cn := RX6) (T := TX6) (N := 23) (v := .int (h 0 17)) 0 (by decide) rfl rfl 17 (by decide) wnX6 wl77 rfl rfl dX6_live_199 ?_
      refine xr_iconst C (v := 1) dX6_live_202 (by decide +kernel) ?_
      refine xr_iadd C dX6_live_203 ?_
      refine xr_put C (ci := 6) (Cn := RX6) (T := TX6) (N := 23) (ty := .int) (v := ((h 0 17) + 1)) 0 (by decide) rfl rfl 17 (by decide) wnX6 wl77 rfl tyX6 tyX6_ok nmX6 rfl (by decide +kernel) rfl rfl (Nat.le_of_ble_eq_true rfl) rfl dX6_live_204 ?_
      refine xr_aload_n C dX6_live_207 0 rfl rfl ?_
      obtain ⟨hh19, ee18, hf⟩ := bV_some hf
      refine xr_callVv C (Cn := RX6) 0 (by decide) rfl rfl [] [] (c_X6_pass l dC dI cI cZ a hD (u2 (u2 (u2 h 0 11 ((h 0 11) + 1)) 8 (h 0 17).toNatClampNeg rr16) 0 17 ((h 0 17) + 1)) ee18) (cwV 0 C.2.2.1 gX6_live_X6_pass rfl rfl rfl (by decide +kernel) ⟨Nat.le_of_ble_eq_true rfl, Nat.le_of_ble_eq_true rfl⟩) rfl rfl (Nat.le_of_ble_eq_true rfl) dX6_live_208 ?_
      refine xr_iconst C (v := 1) dX6_live_211 (by decide +kernel) ?_
      cases hf
      exact xr_zret C hlk hr (by decide +kernel) dX6_live_212
  unfold f_X6_live at hf
  refine xr_aload_n C dX6_live_0 0 rfl rfl ?_
  refine xr_get C (ci := 6) (Cn := RX6) (T := TX6) (N := 23) (v := .int (h 0 22)) 0 (by decide) rfl rfl 22 (by decide) wnX6 wl83 rfl rfl dX6_live_1 ?_
  refine xr_if_eq C 18 dX6_live_4 (by decide) (fun cd1 => ?_) (fun cd1 => ?_)
  · rw [if_pos cd1] at hf
    refine xr_iconst C (v := 0) dX6_live_18 (by decide +kernel) ?_
    refine xr_istore_n C [(1, .int 0), (0, .ref (a 0))] dX6_live_19 rfl (by decide) rfl ?_
    refine xr_aload_n C dX6_live_20 1 rfl rfl ?_
    refine xr_get C (ci := 6) (Cn := RX6) (T := TX6) (N := 23) (v := .ref (a 2)) 0 (by decide) rfl rfl 2 (by decide) wnX6 wl13 rfl rfl dX6_live_21 ?_
    refine xr_aload_n C dX6_live_24 1 rfl rfl ?_
    refine xr_get C (ci := 6) (Cn := RX6) (T := TX6) (N := 23) (v := .int (h 0 4)) 0 (by decide) rfl rfl 4 (by decide) wnX6 wl53 rfl rfl dX6_live_25 ?_
    obtain ⟨gg2, hf⟩ := gd_some hf
    refine xr_iald C (v := h 2 (h 0 4).toNatClampNeg) 2 (by decide) 0 rfl rfl gg2 rfl dX6_live_28 ?_
    refine xr_topi C (fun v3 ev3 => ?_)
    have hf := gl_at hf v3 ev3
    refine xr_istore_n C [(2, .int v3), (1, .int 0), (0, .ref (a 0))] dX6_live_29 rfl (by decide) rfl ?_
    refine xr_iload_n C dX6_live_30 1 rfl rfl ?_
    refine xr_if_ne C 47 dX6_live_31 (by decide) (fun c9 => absurd c9 (by decide)) (fun c9 => ?_)
    refine xr_iload_n C dX6_live_34 0 rfl rfl ?_
    refine xr_bipush C (v := 24) dX6_live_35 (by decide +kernel) ?_
    refine xr_iushr C dX6_live_37 ?_
    refine xr_bipush C (v := 12) dX6_live_38 (by decide +kernel) ?_
    refine xr_icmp_ne C 47 dX6_live_40 (by decide) (fun cd4 => ?_) (fun cd4 => ?_)
    · rw [if_neg cd4] at hf
      refine xr_iconst C (v := 0) dX6_live_47 (by decide +kernel) ?_
      refine xr_istore_n C [(3, .int 0), (2, .int v3), (1, .int 0), (0, .ref (a 0))] dX6_live_48 rfl (by decide) rfl ?_
      refine xr_iload_n C dX6_live_49 2 rfl rfl ?_
      refine xr_if_ne C 60 dX6_live_50 (by decide) (fun c9 => absurd c9 (by decide)) (fun c9 => ?_)
      refine xr_iload_n C dX6_live_53 1 rfl rfl ?_
      refine xr_bipush C (v := 24) dX6_live_54 (by decide +kernel) ?_
      refine xr_iushr C dX6_live_56 ?_
      refine xr_if_eq C 71 dX6_live_57 (by decide) (fun cd5 => ?_) (fun cd5 => ?_)
      · rw [if_pos cd5] at hf
        refine xr_iconst C (v := 0) dX6_live_71 (by decide +kernel) ?_
        cases hf
        exact xr_zret C hlk hr (by decide +kernel) dX6_live_72
      · rw [if_neg cd5] at hf
        refine xr_iload_n C dX6_live_60 0 rfl rfl ?_
        refine xr_if_eq C 73 dX6_live_61 (by decide) (fun c9 => ?_) (fun c9 => absurd c9 (by decide))
        refine xr_iload_n C dX6_live_73 2 rfl rfl ?_
        refine xr_if_ne C 81 dX6_live_74 (by decide) (fun c9 => absurd c9 (by decide)) (fun c9 => ?_)
        refine xr_iload_n C dX6_live_77 0 rfl rfl ?_
        refine xr_if_eq C 91 dX6_live_78 (by decide) (fun c9 => ?_) (fun c9 => absurd c9 (by decide))
        refine xr_aload_n C dX6_live_91 3 rfl rfl ?_
        refine xr_iload_n C dX6_live_92 2 rfl rfl ?_
        refine xr_iload_n C dX6_live_93 1 rfl rfl ?_
        obtain ⟨rr7, ee6, hf⟩ := bR_some hf
        refine xr_callVi C (Cn := RX6) 0 (by decide) rfl rfl [.int 0, .int v3] [] (c_X6_isFull l dC dI cI cZ a hD h 0 v3 ee6) (cwV 2 C.2.2.1 gX6_live_X6_isFull rfl rfl rfl (by decide +kernel) ⟨Nat.le_of_ble_eq_true rfl, Nat.le_of_ble_eq_true rfl⟩) rfl rfl (Nat.le_of_ble_eq_true rfl) dX6_live_94 ?_
        refine xr_if_eq C 102 dX6_live_97 (by decide) (fun cd8 => ?_) (fun cd8 => ?_)
        · rw [if_pos cd8] at hf
          refine xr_iload_n C dX6_live_102 0 rfl rfl ?_
          refine xr_if_eq C 113 dX6_live_103 (by decide) (fun c9 => ?_) (fun c9 => absurd c9 (by decide))
          refine xr_iconst C (v := 0) dX6_live_113 (by decide +kernel) ?_
          refine xr_istore C [(4, .int 0), (3, .int 0), (2, .int v3), (1, .int 0), (0, .ref (a 0))] dX6_live_114 (by decide) rfl ?_
          refine xr_iload_n C dX6_live_116 3 rfl rfl ?_
          refine xr_if_ne C 124 dX6_live_117 (by decide) (fun c9 => absurd c9 (by decide)) (fun c9 => ?_)
          refine xr_iload_n C dX6_live_120 1 rfl rfl ?_
          refine xr_if_eq C 139 dX6_live_121 (by decide) (fun c9 => ?_) (fun c9 => absurd c9 (by decide))
          refine xr_iload_n C dX6_live_139 3 rfl rfl ?_
          refine xr_if_eq C 155 dX6_live_140 (by decide) (fun c9 => ?_) (fun c9 => absurd c9 (by decide))
          refine xr_aload_n C dX6_live_155 4 rfl rfl ?_
          refine xr_iload_n C dX6_live_156 2 rfl rfl ?_
          refine xr_iload C dX6_live_157 0 rfl ?_
          obtain ⟨hh10, ee9, hf⟩ := bV_some hf
          refine xr_callVv C (Cn := RX6) 0 (by decide) rfl rfl [.int v3, .int 0] [] (c_X6_instruct l dC dI cI cZ a hD h v3 0 ee9) (cwV 2 C.2.2.1 gX6_live_X6_instruct rfl rfl rfl (by decide +kernel) ⟨Nat.le_of_ble_eq_true rfl, Nat.le_of_ble_eq_true rfl⟩) rfl rfl (Nat.le_of_ble_eq_true rfl) dX6_live_159 ?_
          exact xr_sub C [4] rfl (lab162 hh10   hf)
        · rw [if_neg cd8] at hf
          refine xr_iconst C (v := 0) dX6_live_100 (by decide +kernel) ?_
          cases hf
          exact xr_zret C hlk hr (by decide +kernel) dX6_live_101
    · rw [if_pos cd4] at hf
      refine xr_iconst C (v := 1) dX6_live_43 (by decide +kernel) ?_
      refine xr_goto C 48 dX6_live_44 (by decide) ?_
      refine xr_istore_n C [(3, .int 1), (2, .int v3), (1, .int 0), (0, .ref (a 0))] dX6_live_48 rfl (by decide) rfl ?_
      refine xr_iload_n C dX6_live_49 2 rfl rfl ?_
      refine xr_if_ne C 60 dX6_live_50 (by decide) (fun c9 => absurd c9 (by decide)) (fun c9 => ?_)
      refine xr_iload_n C dX6_live_53 1 rfl rfl ?_
      refine xr_bipush C (v := 24) dX6_live_54 (by decide +kernel) ?_
      refine xr_iushr C dX6_live_56 ?_
      refine xr_if_eq C 71 dX6_live_57 (by decide) (fun cd20 => ?_) (fun cd20 => ?_)
      · rw [if_pos cd20] at hf
        refine xr_iconst C (v := 0) dX6_live_71 (by decide +kernel) ?_
        cases hf
        exact xr_zret C hlk hr (by decide +kernel) dX6_live_72
      · rw [if_neg cd20] at hf
        refine xr_iload_n C dX6_live_60 0 rfl rfl ?_
        refine xr_if_eq C 73 dX6_live_61 (by decide) (fun c9 => absurd c9 (by decide)) (fun c9 => ?_)
        refine xr_aload_n C dX6_live_64 3 rfl rfl ?_
        refine xr_get C (ci := 6) (Cn := RX6) (T := TX6) (N := 23) (v := .int (h 0 21)) 0 (by decide) rfl rfl 21 (by decide) wnX6 wl80 rfl rfl dX6_live_65 ?_
        refine xr_if_ne C 73 dX6_live_68 (by decide) (fun cd21 => ?_) (fun cd21 => ?_)
        · rw [if_neg cd21] at hf
          refine xr_iload_n C dX6_live_73 2 rfl rfl ?_
          refine xr_if_ne C 81 dX6_live_74 (by decide) (fun c9 => absurd c9 (by decide)) (fun c9 => ?_)
          refine xr_iload_n C dX6_live_77 0 rfl rfl ?_
          refine xr_if_eq C 91 dX6_live_78 (by decide) (fun c9 => absurd c9 (by decide)) (fun c9 => ?_)
          refine xr_aload_n C dX6_live_81 3 rfl rfl ?_
          refine xr_get C (ci := 6) (Cn := RX6) (T := TX6) (N := 23) (v := .int (h 0 15)) 0 (by decide) rfl rfl 15 (by decide) wnX6 wl74 rfl rfl dX6_live_82 ?_
          refine xr_sipush C (v := 300) dX6_live_85 (by decide +kernel) ?_
          refine xr_icmp_eq C 100 dX6_live_88 (by decide) (fun cd22 => ?_) (fun cd22 => ?_)
          · rw [if_pos cd22] at hf
            refine xr_iconst C (v := 0) dX6_live_100 (by decide +kernel) ?_
            cases hf
            exact xr_zret C hlk hr (by decide +kernel) dX6_live_101
          · rw [if_neg cd22] at hf
            refine xr_aload_n C dX6_live_91 3 rfl rfl ?_
            refine xr_iload_n C dX6_live_92 2 rfl rfl ?_
            refine xr_iload_n C dX6_live_93 1 rfl rfl ?_
            obtain ⟨rr24, ee23, hf⟩ := bR_some hf
            refine xr_callVi C (Cn := RX6) 0 (by decide) rfl rfl [.int 0, .int v3] [] (c_X6_isFull l dC dI cI cZ a hD h 0 v3 ee23) (cwV 2 C.2.2.1 gX6_live_X6_isFull rfl rfl rfl (by decide +kernel) ⟨Nat.le_of_ble_eq_true rfl, Nat.le_of_ble_eq_true rfl⟩) rfl rfl (Nat.le_of_ble_eq_true rfl) dX6_live_94 ?_
            refine xr_if_eq C 102 dX6_live_97 (by decide) (fun cd25 => ?_) (fun cd25 => ?_)
            · rw [if_pos cd25] at hf
              refine xr_iload_n C dX6_live_102 0 rfl rfl ?_
              refine xr_if_eq C 113 dX6_live_103 (by decide) (fun c9 => absurd c9 (by decide)) (fun c9 => ?_)
              refine xr_aload_n C dX6_live_106 3 rfl rfl ?_
              obtain ⟨rr27, hh28, ee26, hf⟩ := bM_some hf
              refine xr_callVi C (Cn := RX6) 0 (by decide) rfl rfl [] [] (c_X6_takeInput l dC dI cI cZ a hD h ee26) (cwV 0 C.2.2.1 gX6_live_X6_takeInput rfl rfl rfl (by decide +kernel) ⟨Nat.le_of_ble_eq_true rfl, Nat.le_of_ble_eq_true rfl⟩) rfl rfl (Nat.le_of_ble_eq_true rfl) dX6_live_107 ?_
              refine xr_goto C 114 dX6_live_110 (by decide) ?_
              refine xr_istore C [(4, .int rr27), (3, .int 1), (2, .int v3), (1, .int 0), (0, .ref (a 0))] dX6_live_114 (by decide) rfl ?_
              refine xr_iload_n C dX6_live_116 3 rfl rfl ?_
              refine xr_if_ne C 124 dX6_live_117 (by decide) (fun c9 => absurd c9 (by decide)) (fun c9 => ?_)
              refine xr_iload_n C dX6_live_120 1 rfl rfl ?_
              refine xr_if_eq C 139 dX6_live_121 (by decide) (fun c9 => absurd c9 (by decide)) (fun c9 => ?_)
              refine xr_aload_n C dX6_live_124 4 rfl rfl ?_
              refine xr_iload_n C dX6_live_125 3 rfl rfl ?_
              refine xr_if_eq C 133 dX6_live_126 (by decide) (fun c9 => ?_) (fun c9 => absurd c9 (by decide))
              refine xr_iconst C (v := 1) dX6_live_133 (by decide +kernel) ?_
              refine xr_iload C dX6_live_134 0 rfl ?_
              obtain ⟨hh30, ee29, hf⟩ := bV_some hf
              refine xr_callVv C (Cn := RX6) 0 (by decide) rfl rfl [.int 1, .int rr27] [] (c_X6_note l dC dI cI cZ a hD hh28 1 rr27 ee29) (cwV 2 C.2.2.1 gX6_live_X6_note rfl rfl rfl (by decide +kernel) ⟨Nat.le_of_ble_eq_true rfl, Nat.le_of_ble_eq_true rfl⟩) rfl rfl (Nat.le_of_ble_eq_true rfl) dX6_live_136 ?_
              refine xr_iload_n C dX6_live_139 3 rfl rfl ?_
              refine xr_if_eq C 155 dX6_live_140 (by decide) (fun c9 => ?_) (fun c9 => absurd c9 (by decide))
              refine xr_aload_n C dX6_live_155 4 rfl rfl ?_
              refine xr_iload_n C dX6_live_156 2 rfl rfl ?_
              refine xr_iload C dX6_live_157 0 rfl ?_
              obtain ⟨hh32, ee31, hf⟩ := bV_some hf
              refine xr_callVv C (Cn := RX6) 0 (by decide) rfl rfl [.int v3, .int rr27] [] (c_X6_instruct l dC dI cI cZ a hD hh30 v3 rr27 ee31) (cwV 2 C.2.2.1 gX6_live_X6_instruct rfl rfl rfl (by decide +kernel) ⟨Nat.le_of_ble_eq_true rfl, Nat.le_of_ble_eq_true rfl⟩) rfl rfl (Nat.le_of_ble_eq_true rfl) dX6_live_159 ?_
              exact xr_sub C [4] rfl (lab162 hh32   hf)
            · rw [if_neg cd25] at hf
              refine xr_iconst C (v := 0) dX6_live_100 (by decide +kernel) ?_
              cases hf
              exact xr_zret C hlk hr (by decide +kernel) dX6_live_101
        · rw [if_pos cd21] at hf
          refine xr_iconst C (v := 0) dX6_live_71 (by decide +kernel) ?_
          cases hf
          exact xr_zret C hlk hr (by decide +kernel) dX6_live_72
  · rw [if_neg cd1] at hf
    refine xr_aload_n C dX6_live_7 0 rfl rfl ?_
    refine xr_get C (ci := 6) (Cn := RX6) (T := TX6) (N := 23) (v := .int (h 0 6)) 0 (by decide) rfl rfl 6 (by decide) wnX6 wl59 rfl rfl dX6_live_8 ?_
    refine xr_if_eq C 18 dX6_live_11 (by decide) (fun cd33 => ?_) (fun cd33 => ?_)
    · rw [if_pos cd33] at hf
      refine xr_iconst C (v := 0) dX6_live_18 (by decide +kernel) ?_
      refine xr_istore_n C [(1, .int 0), (0, .ref (a 0))] dX6_live_19 rfl (by decide) rfl ?_
      refine xr_aload_n C dX6_live_20 1 rfl rfl ?_
      refine xr_get C (ci := 6) (Cn := RX6) (T := TX6) (N := 23) (v := .ref (a 2)) 0 (by decide) rfl rfl 2 (by decide) wnX6 wl13 rfl rfl dX6_live_21 ?_
      refine xr_aload_n C dX6_live_24 1 rfl rfl ?_
      refine xr_get C (ci := 6) (Cn := RX6) (T := TX6) (N := 23) (v := .int (h 0 4)) 0 (by decide) rfl rfl 4 (by decide) wnX6 wl53 rfl rfl dX6_live_25 ?_
      obtain ⟨gg34, hf⟩ := gd_some hf
      refine xr_iald C (v := h 2 (h 0 4).toNatClampNeg) 2 (by decide) 0 rfl rfl gg34 rfl dX6_live_28 ?_
      refine xr_topi C (fun v35 ev35 => ?_)
      have hf := gl_at hf v35 ev35
      refine xr_istore_n C [(2, .int v35), (1, .int 0), (0, .ref (a 0))] dX6_live_29 rfl (by decide) rfl ?_
      refine xr_iload_n C dX6_live_30 1 rfl rfl ?_
      refine xr_if_ne C 47 dX6_live_31 (by decide) (fun c9 => absurd c9 (by decide)) (fun c9 => ?_)
      refine xr_iload_n C dX6_live_34 0 rfl rfl ?_
      refine xr_bipush C (v := 24) dX6_live_35 (by decide +kernel) ?_
      refine xr_iushr C dX6_live_37 ?_
      refine xr_bipush C (v := 12) dX6_live_38 (by decide +kernel) ?_
      refine xr_icmp_ne C 47 dX6_live_40 (by decide) (fun cd36 => ?_) (fun cd36 => ?_)
      · rw [if_neg cd36] at hf
        refine xr_iconst C (v := 0) dX6_live_47 (by decide +kernel) ?_
        refine xr_istore_n C [(3, .int 0), (2, .int v35), (1, .int 0), (0, .ref (a 0))] dX6_live_48 rfl (by decide) rfl ?_
        refine xr_iload_n C dX6_live_49 2 rfl rfl ?_
        refine xr_if_ne C 60 dX6_live_50 (by decide) (fun c9 => absurd c9 (by decide)) (fun c9 => ?_)
        refine xr_iload_n C dX6_live_53 1 rfl rfl ?_
        refine xr_bipush C (v := 24) dX6_live_54 (by decide +kernel) ?_
        refine xr_iushr C dX6_live_56 ?_
        refine xr_if_eq C 71 dX6_live_57 (by decide) (fun cd37 => ?_) (fun cd37 => ?_)
        · rw [if_pos cd37] at hf
          refine xr_iconst C (v := 0) dX6_live_71 (by decide +kernel) ?_
          cases hf
          exact xr_zret C hlk hr (by decide +kernel) dX6_live_72
        · rw [if_neg cd37] at hf
          refine xr_iload_n C dX6_live_60 0 rfl rfl ?_
          refine xr_if_eq C 73 dX6_live_61 (by decide) (fun c9 => ?_) (fun c9 => absurd c9 (by decide))
          refine xr_iload_n C dX6_live_73 2 rfl rfl ?_
          refine xr_if_ne C 81 dX6_live_74 (by decide) (fun c9 => absurd c9 (by decide)) (fun c9 => ?_)
          refine xr_iload_n C dX6_live_77 0 rfl rfl ?_
          refine xr_if_eq C 91 dX6_live_78 (by decide) (fun c9 => ?_) (fun c9 => absurd c9 (by decide))
          refine xr_aload_n C dX6_live_91 3 rfl rfl ?_
          refine xr_iload_n C dX6_live_92 2 rfl rfl ?_
          refine xr_iload_n C dX6_live_93 1 rfl rfl ?_
          obtain ⟨rr39, ee38, hf⟩ := bR_some hf
          refine xr_callVi C (Cn := RX6) 0 (by decide) rfl rfl [.int 0, .int v35] [] (c_X6_isFull l dC dI cI cZ a hD h 0 v35 ee38) (cwV 2 C.2.2.1 gX6_live_X6_isFull rfl rfl rfl (by decide +kernel) ⟨Nat.le_of_ble_eq_true rfl, Nat.le_of_ble_eq_true rfl⟩) rfl rfl (Nat.le_of_ble_eq_true rfl) dX6_live_94 ?_
          refine xr_if_eq C 102 dX6_live_97 (by decide) (fun cd40 => ?_) (fun cd40 => ?_)
          · rw [if_pos cd40] at hf
            refine xr_iload_n C dX6_live_102 0 rfl rfl ?_
            refine xr_if_eq C 113 dX6_live_103 (by decide) (fun c9 => ?_) (fun c9 => absurd c9 (by decide))
            refine xr_iconst C (v := 0) dX6_live_113 (by decide +kernel) ?_
            refine xr_istore C [(4, .int 0), (3, .int 0), (2, .int v35), (1, .int 0), (0, .ref (a 0))] dX6_live_114 (by decide) rfl ?_
            refine xr_iload_n C dX6_live_116 3 rfl rfl ?_
            refine xr_if_ne C 124 dX6_live_117 (by decide) (fun c9 => absurd c9 (by decide)) (fun c9 => ?_)
            refine xr_iload_n C dX6_live_120 1 rfl rfl ?_
            refine xr_if_eq C 139 dX6_live_121 (by decide) (fun c9 => ?_) (fun c9 => absurd c9 (by decide))
            refine xr_iload_n C dX6_live_139 3 rfl rfl ?_
            refine xr_if_eq C 155 dX6_live_140 (by decide) (fun c9 => ?_) (fun c9 => absurd c9 (by decide))
            refine xr_aload_n C dX6_live_155 4 rfl rfl ?_
            refine xr_iload_n C dX6_live_156 2 rfl rfl ?_
            refine xr_iload C dX6_live_157 0 rfl ?_
            obtain ⟨hh42, ee41, hf⟩ := bV_some hf
            refine xr_callVv C (Cn := RX6) 0 (by decide) rfl rfl [.int v35, .int 0] [] (c_X6_instruct l dC dI cI cZ a hD h v35 0 ee41) (cwV 2 C.2.2.1 gX6_live_X6_instruct rfl rfl rfl (by decide +kernel) ⟨Nat.le_of_ble_eq_true rfl, Nat.le_of_ble_eq_true rfl⟩) rfl rfl (Nat.le_of_ble_eq_true rfl) dX6_live_159 ?_
            exact xr_sub C [4] rfl (lab162 hh42   hf)
          · rw [if_neg cd40] at hf
            refine xr_iconst C (v := 0) dX6_live_100 (by decide +kernel) ?_
            cases hf
            exact xr_zret C hlk hr (by decide +kernel) dX6_live_101
      · rw [if_pos cd36] at hf
        refine xr_iconst C (v := 1) dX6_live_43 (by decide +kernel) ?_
        refine xr_goto C 48 dX6_live_44 (by decide) ?_
        refine xr_istore_n C [(3, .int 1), (2, .int v35), (1, .int 0), (0, .ref (a 0))] dX6_live_48 rfl (by decide) rfl ?_
        refine xr_iload_n C dX6_live_49 2 rfl rfl ?_
        refine xr_if_ne C 60 dX6_live_50 (by decide) (fun c9 => absurd c9 (by decide)) (fun c9 => ?_)
        refine xr_iload_n C dX6_live_53 1 rfl rfl ?_
        refine xr_bipush C (v := 24) dX6_live_54 (by decide +kernel) ?_
        refine xr_iushr C dX6_live_56 ?_
        refine xr_if_eq C 71 dX6_live_57 (by decide) (fun cd43 => ?_) (fun cd43 => ?_)
        · rw [if_pos cd43] at hf
          refine xr_iconst C (v := 0) dX6_live_71 (by decide +kernel) ?_
          cases hf
          exact xr_zret C hlk hr (by decide +kernel) dX6_live_72
        · rw [if_neg cd43] at hf
          refine xr_iload_n C dX6_live_60 0 rfl rfl ?_
          refine xr_if_eq C 73 dX6_live_61 (by decide) (fun c9 => absurd c9 (by decide)) (fun c9 => ?_)
          refine xr_aload_n C dX6_live_64 3 rfl rfl ?_
          refine xr_get C (ci := 6) (Cn := RX6) (T := TX6) (N := 23) (v := .int (h 0 21)) 0 (by decide) rfl rfl 21 (by decide) wnX6 wl80 rfl rfl dX6_live_65 ?_
          refine xr_if_ne C 73 dX6_live_68 (by decide) (fun cd44 => ?_) (fun cd44 => ?_)
          · rw [if_neg cd44] at hf
            refine xr_iload_n C dX6_live_73 2 rfl rfl ?_
            refine xr_if_ne C 81 dX6_live_74 (by decide) (fun c9 => absurd c9 (by decide)) (fun c9 => ?_)
            refine xr_iload_n C dX6_live_77 0 rfl rfl ?_
            refine xr_if_eq C 91 dX6_live_78 (by decide) (fun c9 => absurd c9 (by decide)) (fun c9 => ?_)
            refine xr_aload_n C dX6_live_81 3 rfl rfl ?_
            refine xr_get C (ci := 6) (Cn := RX6) (T := TX6) (N := 23) (v := .int (h 0 15)) 0 (by decide) rfl rfl 15 (by decide) wnX6 wl74 rfl rfl dX6_live_82 ?_
            refine xr_sipush C (v := 300) dX6_live_85 (by decide +kernel) ?_
            refine xr_icmp_eq C 100 dX6_live_88 (by decide) (fun cd45 => ?_) (fun cd45 => ?_)
            · rw [if_pos cd45] at hf
              refine xr_iconst C (v := 0) dX6_live_100 (by decide +kernel) ?_
              cases hf
              exact xr_zret C hlk hr (by decide +kernel) dX6_live_101
            · rw [if_neg cd45] at hf
              refine xr_aload_n C dX6_live_91 3 rfl rfl ?_
              refine xr_iload_n C dX6_live_92 2 rfl rfl ?_
              refine xr_iload_n C dX6_live_93 1 rfl rfl ?_
              obtain ⟨rr47, ee46, hf⟩ := bR_some hf
              refine xr_callVi C (Cn := RX6) 0 (by decide) rfl rfl [.int 0, .int v35] [] (c_X6_isFull l dC dI cI cZ a hD h 0 v35 ee46) (cwV 2 C.2.2.1 gX6_live_X6_isFull rfl rfl rfl (by decide +kernel) ⟨Nat.le_of_ble_eq_true rfl, Nat.le_of_ble_eq_true rfl⟩) rfl rfl (Nat.le_of_ble_eq_true rfl) dX6_live_94 ?_
              refine xr_if_eq C 102 dX6_live_97 (by decide) (fun cd48 => ?_) (fun cd48 => ?_)
              · rw [if_pos cd48] at hf
                refine xr_iload_n C dX6_live_102 0 rfl rfl ?_
                refine xr_if_eq C 113 dX6_live_103 (by decide) (fun c9 => absurd c9 (by decide)) (fun c9 => ?_)
                refine xr_aload_n C dX6_live_106 3 rfl rfl ?_
                obtain ⟨rr50, hh51, ee49, hf⟩ := bM_some hf
                refine xr_callVi C (Cn := RX6) 0 (by decide) rfl rfl [] [] (c_X6_takeInput l dC dI cI cZ a hD h ee49) (cwV 0 C.2.2.1 gX6_live_X6_takeInput rfl rfl rfl (by decide +kernel) ⟨Nat.le_of_ble_eq_true rfl, Nat.le_of_ble_eq_true rfl⟩) rfl rfl (Nat.le_of_ble_eq_true rfl) dX6_live_107 ?_
                refine xr_goto C 114 dX6_live_110 (by decide) ?_
                refine xr_istore C [(4, .int rr50), (3, .int 1), (2, .int v35), (1, .int 0), (0, .ref (a 0))] dX6_live_114 (by decide) rfl ?_
                refine xr_iload_n C dX6_live_116 3 rfl rfl ?_
                refine xr_if_ne C 124 dX6_live_117 (by decide) (fun c9 => absurd c9 (by decide)) (fun c9 => ?_)
                refine xr_iload_n C dX6_live_120 1 rfl rfl ?_
                refine xr_if_eq C 139 dX6_live_121 (by decide) (fun c9 => absurd c9 (by decide)) (fun c9 => ?_)
                refine xr_aload_n C dX6_live_124 4 rfl rfl ?_
                refine xr_iload_n C dX6_live_125 3 rfl rfl ?_
                refine xr_if_eq C 133 dX6_live_126 (by decide) (fun c9 => ?_) (fun c9 => absurd c9 (by decide))
                refine xr_iconst C (v := 1) dX6_live_133 (by decide +kernel) ?_
                refine xr_iload C dX6_live_134 0 rfl ?_
                obtain ⟨hh53, ee52, hf⟩ := bV_some hf
                refine xr_callVv C (Cn := RX6) 0 (by decide) rfl rfl [.int 1, .int rr50] [] (c_X6_note l dC dI cI cZ a hD hh51 1 rr50 ee52) (cwV 2 C.2.2.1 gX6_live_X6_note rfl rfl rfl (by decide +kernel) ⟨Nat.le_of_ble_eq_true rfl, Nat.le_of_ble_eq_true rfl⟩) rfl rfl (Nat.le_of_ble_eq_true rfl) dX6_live_136 ?_
                refine xr_iload_n C dX6_live_139 3 rfl rfl ?_
                refine xr_if_eq C 155 dX6_live_140 (by decide) (fun c9 => ?_) (fun c9 => absurd c9 (by decide))
                refine xr_aload_n C dX6_live_155 4 rfl rfl ?_
                refine xr_iload_n C dX6_live_156 2 rfl rfl ?_
                refine xr_iload C dX6_live_157 0 rfl ?_
                obtain ⟨hh55, ee54, hf⟩ := bV_some hf
                refine xr_callVv C (Cn := RX6) 0 (by decide) rfl rfl [.int v35, .int rr50] [] (c_X6_instruct l dC dI cI cZ a hD hh53 v35 rr50 ee54) (cwV 2 C.2.2.1 gX6_live_X6_instruct rfl rfl rfl (by decide +kernel) ⟨Nat.le_of_ble_eq_true rfl, Nat.le_of_ble_eq_true rfl⟩) rfl rfl (Nat.le_of_ble_eq_true rfl) dX6_live_159 ?_
                exact xr_sub C [4] rfl (lab162 hh55   hf)
              · rw [if_neg cd48] at hf
                refine xr_iconst C (v := 0) dX6_live_100 (by decide +kernel) ?_
                cases hf
                exact xr_zret C hlk hr (by decide +kernel) dX6_live_101
          · rw [if_pos cd44] at hf
            refine xr_iconst C (v := 0) dX6_live_71 (by decide +kernel) ?_
            cases hf
            exact xr_zret C hlk hr (by decide +kernel) dX6_live_72
    · rw [if_neg cd33] at hf
      refine xr_iconst C (v := 1) dX6_live_14 (by decide +kernel) ?_
      refine xr_goto C 19 dX6_live_15 (by decide) ?_
      refine xr_istore_n C [(1, .int 1), (0, .ref (a 0))] dX6_live_19 rfl (by decide) rfl ?_
      refine xr_aload_n C dX6_live_20 1 rfl rfl ?_
      refine xr_get C (ci := 6) (Cn := RX6) (T := TX6) (N := 23) (v := .ref (a 2)) 0 (by decide) rfl rfl 2 (by decide) wnX6 wl13 rfl rfl dX6_live_21 ?_
      refine xr_aload_n C dX6_live_24 1 rfl rfl ?_
      refine xr_get C (ci := 6) (Cn := RX6) (T := TX6) (N := 23) (v := .int (h 0 4)) 0 (by decide) rfl rfl 4 (by decide) wnX6 wl53 rfl rfl dX6_live_25 ?_
      obtain ⟨gg56, hf⟩ := gd_some hf
      refine xr_iald C (v := h 2 (h 0 4).toNatClampNeg) 2 (by decide) 0 rfl rfl gg56 rfl dX6_live_28 ?_
      refine xr_topi C (fun v57 ev57 => ?_)
      have hf := gl_at hf v57 ev57
      refine xr_istore_n C [(2, .int v57), (1, .int 1), (0, .ref (a 0))] dX6_live_29 rfl (by decide) rfl ?_
      refine xr_iload_n C dX6_live_30 1 rfl rfl ?_
      refine xr_if_ne C 47 dX6_live_31 (by decide) (fun c9 => ?_) (fun c9 => absurd c9 (by decide))
      refine xr_iconst C (v := 0) dX6_live_47 (by decide +kernel) ?_
      refine xr_istore_n C [(3, .int 0), (2, .int v57), (1, .int 1), (0, .ref (a 0))] dX6_live_48 rfl (by decide) rfl ?_
      refine xr_iload_n C dX6_live_49 2 rfl rfl ?_
      refine xr_if_ne C 60 dX6_live_50 (by decide) (fun c9 => ?_) (fun c9 => absurd c9 (by decide))
      refine xr_iload_n C dX6_live_60 0 rfl rfl ?_
      refine xr_if_eq C 73 dX6_live_61 (by decide) (fun c9 => ?_) (fun c9 => absurd c9 (by decide))
      refine xr_iload_n C dX6_live_73 2 rfl rfl ?_
      refine xr_if_ne C 81 dX6_live_74 (by decide) (fun c9 => ?_) (fun c9 => absurd c9 (by decide))
      refine xr_aload_n C dX6_live_81 3 rfl rfl ?_
      refine xr_get C (ci := 6) (Cn := RX6) (T := TX6) (N := 23) (v := .int (h 0 15)) 0 (by decide) rfl rfl 15 (by decide) wnX6 wl74 rfl rfl dX6_live_82 ?_
      refine xr_sipush C (v := 300) dX6_live_85 (by decide +kernel) ?_
      refine xr_icmp_eq C 100 dX6_live_88 (by decide) (fun cd58 => ?_) (fun cd58 => ?_)
      · rw [if_pos cd58] at hf
        refine xr_iconst C (v := 0) dX6_live_100 (by decide +kernel) ?_
        cases hf
        exact xr_zret C hlk hr (by decide +kernel) dX6_live_101
      · rw [if_neg cd58] at hf
        refine xr_aload_n C dX6_live_91 3 rfl rfl ?_
        refine xr_iload_n C dX6_live_92 2 rfl rfl ?_
        refine xr_iload_n C dX6_live_93 1 rfl rfl ?_
        obtain ⟨rr60, ee59, hf⟩ := bR_some hf
        refine xr_callVi C (Cn := RX6) 0 (by decide) rfl rfl [.int 1, .int v57] [] (c_X6_isFull l dC dI cI cZ a hD h 1 v57 ee59) (cwV 2 C.2.2.1 gX6_live_X6_isFull rfl rfl rfl (by decide +kernel) ⟨Nat.le_of_ble_eq_true rfl, Nat.le_of_ble_eq_true rfl⟩) rfl rfl (Nat.le_of_ble_eq_true rfl) dX6_live_94 ?_
        refine xr_if_eq C 102 dX6_live_97 (by decide) (fun cd61 => ?_) (fun cd61 => ?_)
        · rw [if_pos cd61] at hf
          refine xr_iload_n C dX6_live_102 0 rfl rfl ?_
          refine xr_if_eq C 113 dX6_live_103 (by decide) (fun c9 => ?_) (fun c9 => absurd c9 (by decide))
          refine xr_iconst C (v := 0) dX6_live_113 (by decide +kernel) ?_
          refine xr_istore C [(4, .int 0), (3, .int 0), (2, .int v57), (1, .int 1), (0, .ref (a 0))] dX6_live_114 (by decide) rfl ?_
          refine xr_iload_n C dX6_live_116 3 rfl rfl ?_
          refine xr_if_ne C 124 dX6_live_117 (by decide) (fun c9 => ?_) (fun c9 => absurd c9 (by decide))
          refine xr_aload_n C dX6_live_124 4 rfl rfl ?_
          refine xr_iload_n C dX6_live_125 3 rfl rfl ?_
          refine xr_if_eq C 133 dX6_live_126 (by decide) (fun c9 => absurd c9 (by decide)) (fun c9 => ?_)
          refine xr_iconst C (v := 2) dX6_live_129 (by decide +kernel) ?_
          refine xr_goto C 134 dX6_live_130 (by decide) ?_
          refine xr_iload C dX6_live_134 0 rfl ?_
          obtain ⟨hh63, ee62, hf⟩ := bV_some hf
          refine xr_callVv C (Cn := RX6) 0 (by decide) rfl rfl [.int 2, .int 0] [] (c_X6_note l dC dI cI cZ a hD h 2 0 ee62) (cwV 2 C.2.2.1 gX6_live_X6_note rfl rfl rfl (by decide +kernel) ⟨Nat.le_of_ble_eq_true rfl, Nat.le_of_ble_eq_true rfl⟩) rfl rfl (Nat.le_of_ble_eq_true rfl) dX6_live_136 ?_
          refine xr_iload_n C dX6_live_139 3 rfl rfl ?_
          refine xr_if_eq C 155 dX6_live_140 (by decide) (fun c9 => absurd c9 (by decide)) (fun c9 => ?_)
          refine xr_aload_n C dX6_live_143 4 rfl rfl ?_
          refine xr_iconst C (v := 0) dX6_live_144 (by decide +kernel) ?_
          refine xr_put C (ci := 6) (Cn := RX6) (T := TX6) (N := 23) (ty := .boolean) (v := 0) 0 (by decide) rfl rfl 22 (by decide) wnX6 wl83 rfl tyX6 tyX6_ok nmX6 rfl (by decide +kernel) (by decide +kernel) (by decide +kernel) (Nat.le_of_ble_eq_true rfl) rfl dX6_live_145 ?_
          refine xr_aload_n C dX6_live_148 4 rfl rfl ?_
          obtain ⟨hh65, ee64, hf⟩ := bV_some hf
          refine xr_callVv C (Cn := RX6) 0 (by decide) rfl rfl [] [] (c_X6_interrupt l dC dI cI cZ a hD (u2 hh63 0 22 0) ee64) (cwV 0 C.2.2.1 gX6_live_X6_interrupt rfl rfl rfl (by decide +kernel) ⟨Nat.le_of_ble_eq_true rfl, Nat.le_of_ble_eq_true rfl⟩) rfl rfl (Nat.le_of_ble_eq_true rfl) dX6_live_149 ?_
          refine xr_goto C 162 dX6_live_152 (by decide) ?_
          exact xr_sub C [4] rfl (lab162 hh65   hf)
        · rw [if_neg cd61] at hf
          refine xr_iconst C (v := 0) dX6_live_100 (by decide +kernel) ?_
          cases hf
          exact xr_zret C hlk hr (by decide +kernel) dX6_live_101
def f_X6_step_29 : Nat → hp → Int32 → Int32 → Int32 → Int32 → Option (Int32 × hp)
  | 0, _, _, _, _, _ => none
  | n + 1, h, x1, x2, x3, x4 => if x4 = 0 then (some (x3, h)) else (if x2 ≤ x3 then (some (x3, h)) else (if h 0 11 ≤ h 0 10 then (bM (f_X6_live h) (fun rr7 hh8 => if rr7 = 0 then (gl (x3 + 0) (fun v10 => f_X6_step_29 n hh8 x1 x2 v10 rr7)) else (gl (x3 + 1) (fun v11 => f_X6_step_29 n hh8 x1 x2 v11 rr7)))) else (bV (f_X6_again h) (fun hh13 => gl (x3 + 1) (fun v14 => f_X6_step_29 n hh13 x1 x2 v14 x4)))))
def f_X6_step (h : hp) (x1 : Int32) : Option (Int32 × hp) := if h 0 9 = 0 then (some ((-1), h)) else (if x1 ≤ 10000 then (f_X6_step_29 20000 h x1 x1 0 1) else (f_X6_step_29 20000 h x1 10000 0 1))
abbrev rmX6_step : Room := { frames := 4, cells := 0, slots := 0, locals := 93 }
set_option maxHeartbeats 4000000 in
set_option maxRecDepth 100000 in
theorem c_X6_step (l : Launch) (dC : Nat → ClassId) (dI : Nat → Nat → Nat) (cI cZ : ClassId) (a : Nat → Nat) (hD : xD 11 a) (h : hp) (x1 : Int32) {r9 : Int32} {h9 : hp} (hf : f_X6_step h x1 = some (r9, h9)) : XMi l yX6_step wsX6_step rmX6_step (dC, dI) vwCl (mty cI cZ) 11 a (mcf cI cZ a) h [.ref (a 0), .int x1] r9 h9 := by
  refine xm_i (cc := cX6_step) (maxL := 5) (ws' := wsX6_step.tail) (by decide) rfl hD (Nat.le_of_ble_eq_true rfl) [(0, .ref (a 0)), (1, .int x1)] rfl RX6 rfl ?_
  intro p e s m args below meth c C hlk hr
  have wl45 : Cond.fieldLink RX6 45 "RewindBoxModel" "records" "Z" ∈ wsX6_step := by decide +kernel
  have wnX6 : ∀ w ∈ u_ws RX6 TX6 23, w ∈ wsX6_step := by decide +kernel
  have wl65 : Cond.fieldLink RX6 65 "RewindBoxModel" "position" "I" ∈ wsX6_step := by decide +kernel
  have wl71 : Cond.fieldLink RX6 71 "RewindBoxModel" "end" "I" ∈ wsX6_step := by decide +kernel
  have lab29 : ∀ (n : Nat) (h : hp) (x1 : Int32) (x2 : Int32) (x3 : Int32) (x4 : Int32) , f_X6_step_29 n h x1 x2 x3 x4 = some (r9, h9) → XJ p l e rmX6_step s m args below meth c (dC, dI) vwCl 11 a (mcf cI cZ a) 5 (MQ below (XQi (dC, dI) vwCl 11 a (mcf cI cZ a) r9 h9) args s 0 0 (xA 11 a)) h [(0, .ref (a 0)), (1, .int x1), (2, .int x2), (3, .int x3), (4, .int x4)] [] 29 := by
    intro n
    induction n with
    | zero => intro h x1 x2 x3 x4  hf; simp [f_X6_step_29] at hf
    | succ n ih =>
      intro h x1 x2 x3 x4  hf
      rw [f_X6_step_29] at hf
      refine xr_iload C dX6_step_29 4 rfl ?_
      refine xr_if_eq C 79 dX6_step_31 (by decide) (fun cd3 => ?_) (fun cd3 => ?_)
      · rw [if_pos cd3] at hf
        refine xr_iload_n C dX6_step_79 3 rfl rfl ?_
        cases hf
        exact xr_iret C hlk hr dX6_step_80
      · rw [if_neg cd3] at hf
        refine xr_iload_n C dX6_step_34 3 rfl rfl ?_
        refine xr_iload_n C dX6_step_35 2 rfl rfl ?_
        refine xr_icmp_ge C 79 dX6_step_36 (by decide) (fun cd4 => ?_) (fun cd4 => ?_)
        · rw [if_pos cd4] at hf
          refine xr_iload_n C dX6_step_79 3 rfl rfl ?_
          cases hf
          exact xr_iret C hlk hr dX6_step_80
        · rw [if_neg cd4] at hf
          refine xr_aload_n C dX6_step_39 0 rfl rfl ?_
          refine xr_get C (ci := 6) (Cn := RX6) (T := TX6) (N := 23) (v := .int (h 0 10)) 0 (by decide) rfl rfl 10 (by decide) wnX6 wl65 rfl rfl dX6_step_40 ?_
          refine xr_aload_n C dX6_step_43 0 rfl rfl ?_
          refine xr_get C (ci := 6) (Cn := RX6) (T := TX6) (N := 23) (v := .int (h 0 11)) 0 (by decide) rfl rfl 11 (by decide) wnX6 wl71 rfl rfl dX6_step_44 ?_
          refine xr_icmp_ge C 57 dX6_step_47 (by decide) (fun cd5 => ?_) (fun cd5 => ?_)
          · rw [if_pos cd5] at hf
            refine xr_aload_n C dX6_step_57 0 rfl rfl ?_
            obtain ⟨rr7, hh8, ee6, hf⟩ := bM_some hf
            refine xr_callVi C (Cn := RX6) 0 (by decide) rfl rfl [] [] (c_X6_live l dC dI cI cZ a hD h ee6) (cwV 0 C.2.2.1 gX6_step_X6_live rfl rfl rfl (by decide +kernel) ⟨Nat.le_of_ble_eq_true rfl, Nat.le_of_ble_eq_true rfl⟩) rfl rfl (Nat.le_of_ble_eq_true rfl) dX6_step_58 ?_
            refine xr_istore C [(4, .int rr7), (0, .ref (a 0)), (1, .int x1), (2, .int x2), (3, .int x3)] dX6_step_61 (by decide) rfl ?_
            refine xr_iload_n C dX6_step_63 4 rfl rfl ?_
            refine xr_iload C dX6_step_64 0 rfl ?_
            refine xr_if_eq C 73 dX6_step_66 (by decide) (fun cd9 => ?_) (fun cd9 => ?_)
            · rw [if_pos cd9] at hf
              refine xr_iconst C (v := 0) dX6_step_73 (by decide +kernel) ?_
              refine xr_iadd C dX6_step_74 ?_
              refine xr_topi C (fun v10 ev10 => ?_)
              have hf := gl_at hf v10 ev10
              refine xr_istore_n C [(3, .int v10), (4, .int rr7), (0, .ref (a 0)), (1, .int x1), (2, .int x2)] dX6_step_75 rfl (by decide) rfl ?_
              refine xr_goto C 29 dX6_step_76 (by decide) ?_
              exact xr_sub C [2, 3, 4, 0, 1] rfl (ih hh8 x1 x2 v10 rr7  hf)
            · rw [if_neg cd9] at hf
              refine xr_iconst C (v := 1) dX6_step_69 (by decide +kernel) ?_
              refine xr_goto C 74 dX6_step_70 (by decide) ?_
              refine xr_iadd C dX6_step_74 ?_
              refine xr_topi C (fun v11 ev11 => ?_)
              have hf := gl_at hf v11 ev11
              refine xr_istore_n C [(3, .int v11), (4, .int rr7), (0, .ref (a 0)), (1, .int x1), (2, .int x2)] dX6_step_75 rfl (by decide) rfl ?_
              refine xr_goto C 29 dX6_step_76 (by decide) ?_
              exact xr_sub C [2, 3, 4, 0, 1] rfl (ih hh8 x1 x2 v11 rr7  hf)
          · rw [if_neg cd5] at hf
            refine xr_aload_n C dX6_step_50 0 rfl rfl ?_
            obtain ⟨hh13, ee12, hf⟩ := bV_some hf
            refine xr_callVv C (Cn := RX6) 0 (by decide) rfl rfl [] [] (c_X6_again l dC dI cI cZ a hD h ee12) (cwV 0 C.2.2.1 gX6_step_X6_again rfl rfl rfl (by decide +kernel) ⟨Nat.le_of_ble_eq_true rfl, Nat.le_of_ble_eq_true rfl⟩) rfl rfl (Nat.le_of_ble_eq_true rfl) dX6_step_51 ?_
            refine xr_goto C 63 dX6_step_54 (by decide) ?_
            refine xr_iload_n C dX6_step_63 3 rfl rfl ?_
            refine xr_iload C dX6_step_64 4 rfl ?_
            refine xr_if_eq C 73 dX6_step_66 (by decide) (fun c9 => absurd c9 cd3) (fun c9 => ?_)
            refine xr_iconst C (v := 1) dX6_step_69 (by decide +kernel) ?_
            refine xr_goto C 74 dX6_step_70 (by decide) ?_
            refine xr_iadd C dX6_step_74 ?_
            refine xr_topi C (fun v14 ev14 => ?_)
            have hf := gl_at hf v14 ev14
            refine xr_istore_n C [(3, .int v14), (0, .ref (a 0)), (1, .int x1), (2, .int x2), (4, .int x4)] dX6_step_75 rfl (by decide) rfl ?_
            refine xr_goto C 29 dX6_step_76 (by decide) ?_
            exact xr_sub C [1, 2, 3, 0, 4] rfl (ih hh13 x1 x2 v14 x4  hf)
  unfold f_X6_step at hf
  refine xr_aload_n C dX6_step_0 0 rfl rfl ?_
  refine xr_get C (ci := 6) (Cn := RX6) (T := TX6) (N := 23) (v := .int (h 0 9)) 0 (by decide) rfl rfl 9 (by decide) wnX6 wl45 rfl rfl dX6_step_1 ?_
  refine xr_if_ne C 9 dX6_step_4 (by decide) (fun cd1 => ?_) (fun cd1 => ?_)
  · rw [if_neg cd1] at hf
    refine xr_iload_n C dX6_step_9 1 rfl rfl ?_
    refine xr_sipush C (v := 10000) dX6_step_10 (by decide +kernel) ?_
    refine xr_icmp_le C 22 dX6_step_13 (by decide) (fun cd2 => ?_) (fun cd2 => ?_)
    · rw [if_pos cd2] at hf
      refine xr_iload_n C dX6_step_22 1 rfl rfl ?_
      refine xr_istore_n C [(2, .int x1), (0, .ref (a 0)), (1, .int x1)] dX6_step_23 rfl (by decide) rfl ?_
      refine xr_iconst C (v := 0) dX6_step_24 (by decide +kernel) ?_
      refine xr_istore_n C [(3, .int 0), (2, .int x1), (0, .ref (a 0)), (1, .int x1)] dX6_step_25 rfl (by decide) rfl ?_
      refine xr_iconst C (v := 1) dX6_step_26 (by decide +kernel) ?_
      refine xr_istore C [(4, .int 1), (3, .int 0), (2, .int x1), (0, .ref (a 0)), (1, .int x1)] dX6_step_27 (by decide) rfl ?_
      exact xr_sub C [3, 4, 2, 1, 0] rfl (lab29 20000 h x1 x1 0 1  hf)
    · rw [if_neg cd2] at hf
      refine xr_sipush C (v := 10000) dX6_step_16 (by decide +kernel) ?_
      refine xr_goto C 23 dX6_step_19 (by decide) ?_
      refine xr_istore_n C [(2, .int 10000), (0, .ref (a 0)), (1, .int x1)] dX6_step_23 rfl (by decide) rfl ?_
      refine xr_iconst C (v := 0) dX6_step_24 (by decide +kernel) ?_
      refine xr_istore_n C [(3, .int 0), (2, .int 10000), (0, .ref (a 0)), (1, .int x1)] dX6_step_25 rfl (by decide) rfl ?_
      refine xr_iconst C (v := 1) dX6_step_26 (by decide +kernel) ?_
      refine xr_istore C [(4, .int 1), (3, .int 0), (2, .int 10000), (0, .ref (a 0)), (1, .int x1)] dX6_step_27 (by decide) rfl ?_
      exact xr_sub C [3, 4, 2, 1, 0] rfl (lab29 20000 h x1 10000 0 1  hf)
  · rw [if_pos cd1] at hf
    refine xr_iconst C (v := (-1)) dX6_step_7 (by decide +kernel) ?_
    cases hf
    exact xr_iret C hlk hr dX6_step_8
def f_X6_isThere (h0 : hp) (x1 : Int32) : Option Int32 := if h0 0 9 = 0 then (some 0) else (if x1 < 0 then (some 0) else (if h0 0 11 < x1 then (some 0) else (some 1)))
abbrev rmX6_isThere : Room := { frames := 0, cells := 0, slots := 0, locals := 0 }
set_option maxHeartbeats 4000000 in
set_option maxRecDepth 100000 in
theorem c_X6_isThere (l : Launch) (dC : Nat → ClassId) (dI : Nat → Nat → Nat) (cI cZ : ClassId) (a : Nat → Nat) (hD : xD 11 a) (h0 : hp) (x1 : Int32) {r9 : Int32} (hf : f_X6_isThere h0 x1 = some r9) : XMi l yX6_isThere wsX6_isThere rmX6_isThere (dC, dI) vwCl (mty cI cZ) 11 a (mcf cI cZ a) h0 [.ref (a 0), .int x1] r9 h0 := by
  refine xm_i (cc := cX6_isThere) (maxL := 2) (ws' := wsX6_isThere.tail) (by decide) rfl hD (Nat.le_of_ble_eq_true rfl) [(0, .ref (a 0)), (1, .int x1)] rfl RX6 rfl ?_
  intro p e s m args below meth c C hlk hr
  have wl45 : Cond.fieldLink RX6 45 "RewindBoxModel" "records" "Z" ∈ wsX6_isThere := by decide +kernel
  have wnX6 : ∀ w ∈ u_ws RX6 TX6 23, w ∈ wsX6_isThere := by decide +kernel
  have wl71 : Cond.fieldLink RX6 71 "RewindBoxModel" "end" "I" ∈ wsX6_isThere := by decide +kernel
  unfold f_X6_isThere at hf
  refine xr_aload_n C dX6_isThere_0 0 rfl rfl ?_
  refine xr_get C (ci := 6) (Cn := RX6) (T := TX6) (N := 23) (v := .int (h0 0 9)) 0 (by decide) rfl rfl 9 (by decide) wnX6 wl45 rfl rfl dX6_isThere_1 ?_
  refine xr_if_eq C 23 dX6_isThere_4 (by decide) (fun cd1 => ?_) (fun cd1 => ?_)
  · rw [if_pos cd1] at hf
    refine xr_iconst C (v := 0) dX6_isThere_23 (by decide +kernel) ?_
    cases hf
    exact xr_zret C hlk hr (by decide +kernel) dX6_isThere_24
  · rw [if_neg cd1] at hf
    refine xr_iload_n C dX6_isThere_7 1 rfl rfl ?_
    refine xr_if_lt C 23 dX6_isThere_8 (by decide) (fun cd2 => ?_) (fun cd2 => ?_)
    · rw [if_pos cd2] at hf
      refine xr_iconst C (v := 0) dX6_isThere_23 (by decide +kernel) ?_
      cases hf
      exact xr_zret C hlk hr (by decide +kernel) dX6_isThere_24
    · rw [if_neg cd2] at hf
      refine xr_iload_n C dX6_isThere_11 1 rfl rfl ?_
      refine xr_aload_n C dX6_isThere_12 0 rfl rfl ?_
      refine xr_get C (ci := 6) (Cn := RX6) (T := TX6) (N := 23) (v := .int (h0 0 11)) 0 (by decide) rfl rfl 11 (by decide) wnX6 wl71 rfl rfl dX6_isThere_13 ?_
      refine xr_icmp_gt C 23 dX6_isThere_16 (by decide) (fun cd3 => ?_) (fun cd3 => ?_)
      · rw [if_pos cd3] at hf
        refine xr_iconst C (v := 0) dX6_isThere_23 (by decide +kernel) ?_
        cases hf
        exact xr_zret C hlk hr (by decide +kernel) dX6_isThere_24
      · rw [if_neg cd3] at hf
        refine xr_iconst C (v := 1) dX6_isThere_19 (by decide +kernel) ?_
        refine xr_goto C 24 dX6_isThere_20 (by decide) ?_
        cases hf
        exact xr_zret C hlk hr (by decide +kernel) dX6_isThere_24
def f_X6_go_14 : Nat → hp → Int32 → Option (Int32 × hp)
  | 0, _, _ => none
  | n + 1, h, x1 => if x1 ≤ h 0 10 then (some (1, h)) else (bV (f_X6_again h) (fun hh8 => f_X6_go_14 n hh8 x1))
def f_X6_go (h : hp) (x1 : Int32) : Option (Int32 × hp) := bR (f_X6_isThere h x1) (fun rr2 => if rr2 = 0 then (some (0, h)) else (bV (f_X6_rewind h) (fun hh5 => f_X6_go_14 20000 hh5 x1)))
abbrev rmX6_go : Room := { frames := 4, cells := 0, slots := 0, locals := 91 }
set_option maxHeartbeats 4000000 in
set_option maxRecDepth 100000 in
theorem c_X6_go (l : Launch) (dC : Nat → ClassId) (dI : Nat → Nat → Nat) (cI cZ : ClassId) (a : Nat → Nat) (hD : xD 11 a) (h : hp) (x1 : Int32) {r9 : Int32} {h9 : hp} (hf : f_X6_go h x1 = some (r9, h9)) : XMi l yX6_go wsX6_go rmX6_go (dC, dI) vwCl (mty cI cZ) 11 a (mcf cI cZ a) h [.ref (a 0), .int x1] r9 h9 := by
  refine xm_i (cc := cX6_go) (maxL := 2) (ws' := wsX6_go.tail) (by decide) rfl hD (Nat.le_of_ble_eq_true rfl) [(0, .ref (a 0)), (1, .int x1)] rfl RX6 rfl ?_
  intro p e s m args below meth c C hlk hr
  have wl65 : Cond.fieldLink RX6 65 "RewindBoxModel" "position" "I" ∈ wsX6_go := by decide +kernel
  have wnX6 : ∀ w ∈ u_ws RX6 TX6 23, w ∈ wsX6_go := by decide +kernel
  have lab14 : ∀ (n : Nat) (h : hp) (x1 : Int32) , f_X6_go_14 n h x1 = some (r9, h9) → XJ p l e rmX6_go s m args below meth c (dC, dI) vwCl 11 a (mcf cI cZ a) 2 (MQ below (XQi (dC, dI) vwCl 11 a (mcf cI cZ a) r9 h9) args s 0 0 (xA 11 a)) h [(0, .ref (a 0)), (1, .int x1)] [] 14 := by
    intro n
    induction n with
    | zero => intro h x1  hf; simp [f_X6_go_14] at hf
    | succ n ih =>
      intro h x1  hf
      rw [f_X6_go_14] at hf
      refine xr_aload_n C dX6_go_14 0 rfl rfl ?_
      refine xr_get C (ci := 6) (Cn := RX6) (T := TX6) (N := 23) (v := .int (h 0 10)) 0 (by decide) rfl rfl 10 (by decide) wnX6 wl65 rfl rfl dX6_go_15 ?_
      refine xr_iload_n C dX6_go_18 1 rfl rfl ?_
      refine xr_icmp_ge C 29 dX6_go_19 (by decide) (fun cd6 => ?_) (fun cd6 => ?_)
      · rw [if_pos cd6] at hf
        refine xr_iconst C (v := 1) dX6_go_29 (by decide +kernel) ?_
        cases hf
        exact xr_zret C hlk hr (by decide +kernel) dX6_go_30
      · rw [if_neg cd6] at hf
        refine xr_aload_n C dX6_go_22 0 rfl rfl ?_
        obtain ⟨hh8, ee7, hf⟩ := bV_some hf
        refine xr_callVv C (Cn := RX6) 0 (by decide) rfl rfl [] [] (c_X6_again l dC dI cI cZ a hD h ee7) (cwV 0 C.2.2.1 gX6_go_X6_again rfl rfl rfl (by decide +kernel) ⟨Nat.le_of_ble_eq_true rfl, Nat.le_of_ble_eq_true rfl⟩) rfl rfl (Nat.le_of_ble_eq_true rfl) dX6_go_23 ?_
        refine xr_goto C 14 dX6_go_26 (by decide) ?_
        exact xr_sub C [0, 1] rfl (ih hh8 x1  hf)
  unfold f_X6_go at hf
  refine xr_aload_n C dX6_go_0 0 rfl rfl ?_
  refine xr_iload_n C dX6_go_1 1 rfl rfl ?_
  obtain ⟨rr2, ee1, hf⟩ := bR_some hf
  refine xr_callVi C (Cn := RX6) 0 (by decide) rfl rfl [.int x1] [] (c_X6_isThere l dC dI cI cZ a hD h x1 ee1) (cwV 1 C.2.2.1 gX6_go_X6_isThere rfl rfl rfl (by decide +kernel) ⟨Nat.le_of_ble_eq_true rfl, Nat.le_of_ble_eq_true rfl⟩) rfl rfl (Nat.le_of_ble_eq_true rfl) dX6_go_2 ?_
  refine xr_if_ne C 10 dX6_go_5 (by decide) (fun cd3 => ?_) (fun cd3 => ?_)
  · rw [if_neg cd3] at hf
    refine xr_aload_n C dX6_go_10 0 rfl rfl ?_
    obtain ⟨hh5, ee4, hf⟩ := bV_some hf
    refine xr_callVv C (Cn := RX6) 0 (by decide) rfl rfl [] [] (c_X6_rewind l dC dI cI cZ a hD h ee4) (cwV 0 C.2.2.1 gX6_go_X6_rewind rfl rfl rfl (by decide +kernel) ⟨Nat.le_of_ble_eq_true rfl, Nat.le_of_ble_eq_true rfl⟩) rfl rfl (Nat.le_of_ble_eq_true rfl) dX6_go_11 ?_
    exact xr_sub C [0, 1] rfl (lab14 20000 hh5 x1  hf)
  · rw [if_pos cd3] at hf
    refine xr_iconst C (v := 0) dX6_go_8 (by decide +kernel) ?_
    cases hf
    exact xr_zret C hlk hr (by decide +kernel) dX6_go_9
