/-! THE LAW, 2: its sixteen cases -/
section LAW
variable {p : Program} {l : Launch} {e : Env} {s : State} {m : MethodId} {below : List Frame} {meth : Method} {c : Code} {b L : Nat} {xs : Nat → Int32} {dC : Nat → ClassId} {dI : Nat → Nat → Nat} {cI cS cZ : ClassId} {a a2 : Nat → Nat} {h g : hp}
set_option maxHeartbeats 1000000 in
theorem lc_0 (C : LC p s m meth c b L xs dC dI cI cS cZ a a2) {j : Nat} (hj : j + 2 < L) (hV : INV h g) (kk : ∀ h' g', INV h' g' → LJ p l e s m below meth c b dC dI cI cS cZ a a2 h' g' [(3, .int (nI j)), (2, .ref (a2 0)), (1, .ref (a 0)), (0, .ref b)] 454) : LJ p l e s m below meth c b dC dI cI cS cZ a a2 h g [(3, .int (nI j)), (2, .ref (a2 0)), (1, .ref (a 0)), (0, .ref b)] 120 := by
  obtain ⟨hx, hb, hml, hown, hts, hX, hbl, hK1, hK2, hD1, hD2, hA1, hA2, hdis, hL, hr, hlk⟩ := id C
  obtain ⟨r, h', g', e1, e2, hV'⟩ := eq_poke hV (xs (j + 1)) (xs (j + 2))
  intro H locs ls hP1 hP2 hS hl
  refine lv_aload_n hx hb dL_law_120 rfl (lv_at hl 2 rfl) ?_
  refine lv_aload_n hx hb dL_law_121 rfl (lv_at hl 3 rfl) ?_
  refine lv_iload_n hx hb dL_law_122 rfl (lv_at hl 0 rfl) ?_
  refine lv_iconst (v := 1) hx hb dL_law_123 (by decide) ?_
  refine lv_iadd hx hb dL_law_124 ?_
  refine ls_ld C hS (n := j + 1) (nI_add j 1) (by omega) dL_law_125 ?_
  refine lv_aload_n hx hb dL_law_126 rfl (lv_at hl 3 rfl) ?_
  refine lv_iload_n hx hb dL_law_127 rfl (lv_at hl 0 rfl) ?_
  refine lv_iconst (v := 2) hx hb dL_law_128 (by decide) ?_
  refine lv_iadd hx hb dL_law_129 ?_
  refine ls_ld C hS (n := j + 2) (nI_add j 2) (by omega) dL_law_130 ?_
  refine lk_i C hP1 hP2 hS hl.1 [.int (xs (j + 1)), .int (xs (j + 2))] [] (c_X5_poke l dC dI cI cS a hD1 h (xs (j + 1)) (xs (j + 2)) e1) (cwV 2 hts gL_law_X5_poke rfl rfl rfl (by decide +kernel) ⟨Nat.le_of_ble_eq_true rfl, Nat.le_of_ble_eq_true rfl⟩) rfl rfl (Nat.le_of_ble_eq_true rfl) dL_law_131 (fun H locs hP1 hP2 hS => ?_)
  refine lv_aload_n hx hb dL_law_134 rfl (lv_at hl 1 rfl) ?_
  refine lv_aload_n hx hb dL_law_135 rfl (lv_at hl 3 rfl) ?_
  refine lv_iload_n hx hb dL_law_136 rfl (lv_at hl 0 rfl) ?_
  refine lv_iconst (v := 1) hx hb dL_law_137 (by decide) ?_
  refine lv_iadd hx hb dL_law_138 ?_
  refine ls_ld C hS (n := j + 1) (nI_add j 1) (by omega) dL_law_139 ?_
  refine lv_aload_n hx hb dL_law_140 rfl (lv_at hl 3 rfl) ?_
  refine lv_iload_n hx hb dL_law_141 rfl (lv_at hl 0 rfl) ?_
  refine lv_iconst (v := 2) hx hb dL_law_142 (by decide) ?_
  refine lv_iadd hx hb dL_law_143 ?_
  refine ls_ld C hS (n := j + 2) (nI_add j 2) (by omega) dL_law_144 ?_
  refine lm_i C hP1 hP2 hS hl.1 [.int (xs (j + 1)), .int (xs (j + 2))] [.int r] (c_X6_poke l dC dI cI cZ a2 hD2 g (xs (j + 1)) (xs (j + 2)) e2) (cwV 2 hts gL_law_X6_poke rfl rfl rfl (by decide +kernel) ⟨Nat.le_of_ble_eq_true rfl, Nat.le_of_ble_eq_true rfl⟩) rfl rfl (Nat.le_of_ble_eq_true rfl) dL_law_145 (fun H locs hP1 hP2 hS => ?_)
  exact lv_icmp_eq (tgt := 454) hx hb dL_law_148 (by decide) (fun _ => kk h' g' hV' H locs ls hP1 hP2 hS hl) (fun c1 => absurd rfl c1)
set_option maxHeartbeats 1000000 in
theorem lc_1 (C : LC p s m meth c b L xs dC dI cI cS cZ a a2) {j : Nat} (hj : j + 2 < L) (hV : INV h g) (kk : ∀ h' g', INV h' g' → LJ p l e s m below meth c b dC dI cI cS cZ a a2 h' g' [(3, .int (nI j)), (2, .ref (a2 0)), (1, .ref (a 0)), (0, .ref b)] 454) : LJ p l e s m below meth c b dC dI cI cS cZ a a2 h g [(3, .int (nI j)), (2, .ref (a2 0)), (1, .ref (a 0)), (0, .ref b)] 153 := by
  obtain ⟨hx, hb, hml, hown, hts, hX, hbl, hK1, hK2, hD1, hD2, hA1, hA2, hdis, hL, hr, hlk⟩ := id C
  obtain ⟨h', g', e1, e2, hV'⟩ := eq_start hV 
  intro H locs ls hP1 hP2 hS hl
  refine lv_aload_n hx hb dL_law_153 rfl (lv_at hl 2 rfl) ?_
  refine lk_v C hP1 hP2 hS hl.1 [] [] (c_X5_start l dC dI cI cS a hD1 h  e1) (cwV 0 hts gL_law_X5_start rfl rfl rfl (by decide +kernel) ⟨Nat.le_of_ble_eq_true rfl, Nat.le_of_ble_eq_true rfl⟩) rfl rfl (Nat.le_of_ble_eq_true rfl) dL_law_154 (fun H locs hP1 hP2 hS => ?_)
  refine lv_aload_n hx hb dL_law_157 rfl (lv_at hl 1 rfl) ?_
  refine lm_v C hP1 hP2 hS hl.1 [] [] (c_X6_start l dC dI cI cZ a2 hD2 g  e2) (cwV 0 hts gL_law_X6_start rfl rfl rfl (by decide +kernel) ⟨Nat.le_of_ble_eq_true rfl, Nat.le_of_ble_eq_true rfl⟩) rfl rfl (Nat.le_of_ble_eq_true rfl) dL_law_158 (fun H locs hP1 hP2 hS => ?_)
  refine lv_goto (tgt := 454) hx hb dL_law_161 (by decide) ?_
  exact kk h' g' hV' H locs ls hP1 hP2 hS hl
set_option maxHeartbeats 1000000 in
theorem lc_2 (C : LC p s m meth c b L xs dC dI cI cS cZ a a2) {j : Nat} (hj : j + 2 < L) (hV : INV h g) (kk : ∀ h' g', INV h' g' → LJ p l e s m below meth c b dC dI cI cS cZ a a2 h' g' [(3, .int (nI j)), (2, .ref (a2 0)), (1, .ref (a 0)), (0, .ref b)] 454) : LJ p l e s m below meth c b dC dI cI cS cZ a a2 h g [(3, .int (nI j)), (2, .ref (a2 0)), (1, .ref (a 0)), (0, .ref b)] 164 := by
  obtain ⟨hx, hb, hml, hown, hts, hX, hbl, hK1, hK2, hD1, hD2, hA1, hA2, hdis, hL, hr, hlk⟩ := id C
  obtain ⟨h', g', e1, e2, hV'⟩ := eq_stop hV 
  intro H locs ls hP1 hP2 hS hl
  refine lv_aload_n hx hb dL_law_164 rfl (lv_at hl 2 rfl) ?_
  refine lk_v C hP1 hP2 hS hl.1 [] [] (c_X5_stop l dC dI cI cS a hD1 h  e1) (cwV 0 hts gL_law_X5_stop rfl rfl rfl (by decide +kernel) ⟨Nat.le_of_ble_eq_true rfl, Nat.le_of_ble_eq_true rfl⟩) rfl rfl (Nat.le_of_ble_eq_true rfl) dL_law_165 (fun H locs hP1 hP2 hS => ?_)
  refine lv_aload_n hx hb dL_law_168 rfl (lv_at hl 1 rfl) ?_
  refine lm_v C hP1 hP2 hS hl.1 [] [] (c_X6_stop l dC dI cI cZ a2 hD2 g  e2) (cwV 0 hts gL_law_X6_stop rfl rfl rfl (by decide +kernel) ⟨Nat.le_of_ble_eq_true rfl, Nat.le_of_ble_eq_true rfl⟩) rfl rfl (Nat.le_of_ble_eq_true rfl) dL_law_169 (fun H locs hP1 hP2 hS => ?_)
  refine lv_goto (tgt := 454) hx hb dL_law_172 (by decide) ?_
  exact kk h' g' hV' H locs ls hP1 hP2 hS hl
set_option maxHeartbeats 1000000 in
theorem lc_3 (C : LC p s m meth c b L xs dC dI cI cS cZ a a2) {j : Nat} (hj : j + 2 < L) (hV : INV h g) (kk : ∀ h' g', INV h' g' → LJ p l e s m below meth c b dC dI cI cS cZ a a2 h' g' [(3, .int (nI j)), (2, .ref (a2 0)), (1, .ref (a 0)), (0, .ref b)] 454) : LJ p l e s m below meth c b dC dI cI cS cZ a a2 h g [(3, .int (nI j)), (2, .ref (a2 0)), (1, .ref (a 0)), (0, .ref b)] 175 := by
  obtain ⟨hx, hb, hml, hown, hts, hX, hbl, hK1, hK2, hD1, hD2, hA1, hA2, hdis, hL, hr, hlk⟩ := id C
  obtain ⟨r, h', g', e1, e2, hV'⟩ := eq_give hV (xs (j + 1))
  intro H locs ls hP1 hP2 hS hl
  refine lv_aload_n hx hb dL_law_175 rfl (lv_at hl 2 rfl) ?_
  refine lv_aload_n hx hb dL_law_176 rfl (lv_at hl 3 rfl) ?_
  refine lv_iload_n hx hb dL_law_177 rfl (lv_at hl 0 rfl) ?_
  refine lv_iconst (v := 1) hx hb dL_law_178 (by decide) ?_
  refine lv_iadd hx hb dL_law_179 ?_
  refine ls_ld C hS (n := j + 1) (nI_add j 1) (by omega) dL_law_180 ?_
  refine lk_i C hP1 hP2 hS hl.1 [.int (xs (j + 1))] [] (c_X5_give l dC dI cI cS a hD1 h (xs (j + 1)) e1) (cwV 1 hts gL_law_X5_give rfl rfl rfl (by decide +kernel) ⟨Nat.le_of_ble_eq_true rfl, Nat.le_of_ble_eq_true rfl⟩) rfl rfl (Nat.le_of_ble_eq_true rfl) dL_law_181 (fun H locs hP1 hP2 hS => ?_)
  refine lv_aload_n hx hb dL_law_184 rfl (lv_at hl 1 rfl) ?_
  refine lv_aload_n hx hb dL_law_185 rfl (lv_at hl 3 rfl) ?_
  refine lv_iload_n hx hb dL_law_186 rfl (lv_at hl 0 rfl) ?_
  refine lv_iconst (v := 1) hx hb dL_law_187 (by decide) ?_
  refine lv_iadd hx hb dL_law_188 ?_
  refine ls_ld C hS (n := j + 1) (nI_add j 1) (by omega) dL_law_189 ?_
  refine lm_i C hP1 hP2 hS hl.1 [.int (xs (j + 1))] [.int r] (c_X6_give l dC dI cI cZ a2 hD2 g (xs (j + 1)) e2) (cwV 1 hts gL_law_X6_give rfl rfl rfl (by decide +kernel) ⟨Nat.le_of_ble_eq_true rfl, Nat.le_of_ble_eq_true rfl⟩) rfl rfl (Nat.le_of_ble_eq_true rfl) dL_law_190 (fun H locs hP1 hP2 hS => ?_)
  exact lv_icmp_eq (tgt := 454) hx hb dL_law_193 (by decide) (fun _ => kk h' g' hV' H locs ls hP1 hP2 hS hl) (fun c1 => absurd rfl c1)
set_option maxHeartbeats 1000000 in
theorem lc_4 (C : LC p s m meth c b L xs dC dI cI cS cZ a a2) {j : Nat} (hj : j + 2 < L) (hV : INV h g) (kk : ∀ h' g', INV h' g' → LJ p l e s m below meth c b dC dI cI cS cZ a a2 h' g' [(3, .int (nI j)), (2, .ref (a2 0)), (1, .ref (a 0)), (0, .ref b)] 454) : LJ p l e s m below meth c b dC dI cI cS cZ a a2 h g [(3, .int (nI j)), (2, .ref (a2 0)), (1, .ref (a 0)), (0, .ref b)] 198 := by
  obtain ⟨hx, hb, hml, hown, hts, hX, hbl, hK1, hK2, hD1, hD2, hA1, hA2, hdis, hL, hr, hlk⟩ := id C
  obtain ⟨r, h', g', e1, e2, hV'⟩ := eq_ring hV 
  intro H locs ls hP1 hP2 hS hl
  refine lv_aload_n hx hb dL_law_198 rfl (lv_at hl 2 rfl) ?_
  refine lk_i C hP1 hP2 hS hl.1 [] [] (c_X5_ring l dC dI cI cS a hD1 h  e1) (cwV 0 hts gL_law_X5_ring rfl rfl rfl (by decide +kernel) ⟨Nat.le_of_ble_eq_true rfl, Nat.le_of_ble_eq_true rfl⟩) rfl rfl (Nat.le_of_ble_eq_true rfl) dL_law_199 (fun H locs hP1 hP2 hS => ?_)
  refine lv_aload_n hx hb dL_law_202 rfl (lv_at hl 1 rfl) ?_
  refine lm_i C hP1 hP2 hS hl.1 [] [.int r] (c_X6_ring l dC dI cI cZ a2 hD2 g  e2) (cwV 0 hts gL_law_X6_ring rfl rfl rfl (by decide +kernel) ⟨Nat.le_of_ble_eq_true rfl, Nat.le_of_ble_eq_true rfl⟩) rfl rfl (Nat.le_of_ble_eq_true rfl) dL_law_203 (fun H locs hP1 hP2 hS => ?_)
  exact lv_icmp_eq (tgt := 454) hx hb dL_law_206 (by decide) (fun _ => kk h' g' hV' H locs ls hP1 hP2 hS hl) (fun c1 => absurd rfl c1)
set_option maxHeartbeats 1000000 in
theorem lc_5 (C : LC p s m meth c b L xs dC dI cI cS cZ a a2) {j : Nat} (hj : j + 2 < L) (hV : INV h g) (kk : ∀ h' g', INV h' g' → LJ p l e s m below meth c b dC dI cI cS cZ a a2 h' g' [(3, .int (nI j)), (2, .ref (a2 0)), (1, .ref (a 0)), (0, .ref b)] 454) : LJ p l e s m below meth c b dC dI cI cS cZ a a2 h g [(3, .int (nI j)), (2, .ref (a2 0)), (1, .ref (a 0)), (0, .ref b)] 211 := by
  obtain ⟨hx, hb, hml, hown, hts, hX, hbl, hK1, hK2, hD1, hD2, hA1, hA2, hdis, hL, hr, hlk⟩ := id C
  obtain ⟨r, h', g', e1, e2, hV'⟩ := eq_step hV (xs (j + 1))
  intro H locs ls hP1 hP2 hS hl
  refine lv_aload_n hx hb dL_law_211 rfl (lv_at hl 2 rfl) ?_
  refine lv_aload_n hx hb dL_law_212 rfl (lv_at hl 3 rfl) ?_
  refine lv_iload_n hx hb dL_law_213 rfl (lv_at hl 0 rfl) ?_
  refine lv_iconst (v := 1) hx hb dL_law_214 (by decide) ?_
  refine lv_iadd hx hb dL_law_215 ?_
  refine ls_ld C hS (n := j + 1) (nI_add j 1) (by omega) dL_law_216 ?_
  refine lk_i C hP1 hP2 hS hl.1 [.int (xs (j + 1))] [] (c_X5_step l dC dI cI cS a hD1 h (xs (j + 1)) e1) (cwV 1 hts gL_law_X5_step rfl rfl rfl (by decide +kernel) ⟨Nat.le_of_ble_eq_true rfl, Nat.le_of_ble_eq_true rfl⟩) rfl rfl (Nat.le_of_ble_eq_true rfl) dL_law_217 (fun H locs hP1 hP2 hS => ?_)
  refine lv_aload_n hx hb dL_law_220 rfl (lv_at hl 1 rfl) ?_
  refine lv_aload_n hx hb dL_law_221 rfl (lv_at hl 3 rfl) ?_
  refine lv_iload_n hx hb dL_law_222 rfl (lv_at hl 0 rfl) ?_
  refine lv_iconst (v := 1) hx hb dL_law_223 (by decide) ?_
  refine lv_iadd hx hb dL_law_224 ?_
  refine ls_ld C hS (n := j + 1) (nI_add j 1) (by omega) dL_law_225 ?_
  refine lm_i C hP1 hP2 hS hl.1 [.int (xs (j + 1))] [.int r] (c_X6_step l dC dI cI cZ a2 hD2 g (xs (j + 1)) e2) (cwV 1 hts gL_law_X6_step rfl rfl rfl (by decide +kernel) ⟨Nat.le_of_ble_eq_true rfl, Nat.le_of_ble_eq_true rfl⟩) rfl rfl (Nat.le_of_ble_eq_true rfl) dL_law_226 (fun H locs hP1 hP2 hS => ?_)
  exact lv_icmp_eq (tgt := 454) hx hb dL_law_229 (by decide) (fun _ => kk h' g' hV' H locs ls hP1 hP2 hS hl) (fun c1 => absurd rfl c1)
set_option maxHeartbeats 1000000 in
theorem lc_6 (C : LC p s m meth c b L xs dC dI cI cS cZ a a2) {j : Nat} (hj : j + 2 < L) (hV : INV h g) (kk : ∀ h' g', INV h' g' → LJ p l e s m below meth c b dC dI cI cS cZ a a2 h' g' [(3, .int (nI j)), (2, .ref (a2 0)), (1, .ref (a 0)), (0, .ref b)] 454) : LJ p l e s m below meth c b dC dI cI cS cZ a a2 h g [(3, .int (nI j)), (2, .ref (a2 0)), (1, .ref (a 0)), (0, .ref b)] 234 := by
  obtain ⟨hx, hb, hml, hown, hts, hX, hbl, hK1, hK2, hD1, hD2, hA1, hA2, hdis, hL, hr, hlk⟩ := id C
  obtain ⟨r, h', g', e1, e2, hV'⟩ := eq_go hV (xs (j + 1))
  intro H locs ls hP1 hP2 hS hl
  refine lv_aload_n hx hb dL_law_234 rfl (lv_at hl 2 rfl) ?_
  refine lv_aload_n hx hb dL_law_235 rfl (lv_at hl 3 rfl) ?_
  refine lv_iload_n hx hb dL_law_236 rfl (lv_at hl 0 rfl) ?_
  refine lv_iconst (v := 1) hx hb dL_law_237 (by decide) ?_
  refine lv_iadd hx hb dL_law_238 ?_
  refine ls_ld C hS (n := j + 1) (nI_add j 1) (by omega) dL_law_239 ?_
  refine lk_i C hP1 hP2 hS hl.1 [.int (xs (j + 1))] [] (c_X5_go l dC dI cI cS a hD1 h (xs (j + 1)) e1) (cwV 1 hts gL_law_X5_go rfl rfl rfl (by decide +kernel) ⟨Nat.le_of_ble_eq_true rfl, Nat.le_of_ble_eq_true rfl⟩) rfl rfl (Nat.le_of_ble_eq_true rfl) dL_law_240 (fun H locs hP1 hP2 hS => ?_)
  refine lv_aload_n hx hb dL_law_243 rfl (lv_at hl 1 rfl) ?_
  refine lv_aload_n hx hb dL_law_244 rfl (lv_at hl 3 rfl) ?_
  refine lv_iload_n hx hb dL_law_245 rfl (lv_at hl 0 rfl) ?_
  refine lv_iconst (v := 1) hx hb dL_law_246 (by decide) ?_
  refine lv_iadd hx hb dL_law_247 ?_
  refine ls_ld C hS (n := j + 1) (nI_add j 1) (by omega) dL_law_248 ?_
  refine lm_i C hP1 hP2 hS hl.1 [.int (xs (j + 1))] [.int r] (c_X6_go l dC dI cI cZ a2 hD2 g (xs (j + 1)) e2) (cwV 1 hts gL_law_X6_go rfl rfl rfl (by decide +kernel) ⟨Nat.le_of_ble_eq_true rfl, Nat.le_of_ble_eq_true rfl⟩) rfl rfl (Nat.le_of_ble_eq_true rfl) dL_law_249 (fun H locs hP1 hP2 hS => ?_)
  exact lv_icmp_eq (tgt := 454) hx hb dL_law_252 (by decide) (fun _ => kk h' g' hV' H locs ls hP1 hP2 hS hl) (fun c1 => absurd rfl c1)
set_option maxHeartbeats 1000000 in
theorem lc_7 (C : LC p s m meth c b L xs dC dI cI cS cZ a a2) {j : Nat} (hj : j + 2 < L) (hV : INV h g) (kk : ∀ h' g', INV h' g' → LJ p l e s m below meth c b dC dI cI cS cZ a a2 h' g' [(3, .int (nI j)), (2, .ref (a2 0)), (1, .ref (a 0)), (0, .ref b)] 454) : LJ p l e s m below meth c b dC dI cI cS cZ a a2 h g [(3, .int (nI j)), (2, .ref (a2 0)), (1, .ref (a 0)), (0, .ref b)] 257 := by
  obtain ⟨hx, hb, hml, hown, hts, hX, hbl, hK1, hK2, hD1, hD2, hA1, hA2, hdis, hL, hr, hlk⟩ := id C
  obtain ⟨r, e1, e2⟩ := eq_far hV (xs (j + 1))
  intro H locs ls hP1 hP2 hS hl
  refine lv_aload_n hx hb dL_law_257 rfl (lv_at hl 2 rfl) ?_
  refine lv_aload_n hx hb dL_law_258 rfl (lv_at hl 3 rfl) ?_
  refine lv_iload_n hx hb dL_law_259 rfl (lv_at hl 0 rfl) ?_
  refine lv_iconst (v := 1) hx hb dL_law_260 (by decide) ?_
  refine lv_iadd hx hb dL_law_261 ?_
  refine ls_ld C hS (n := j + 1) (nI_add j 1) (by omega) dL_law_262 ?_
  refine lk_i C hP1 hP2 hS hl.1 [.int (xs (j + 1))] [] (c_X5_far l dC dI cI cS a hD1 h (xs (j + 1)) e1) (cwV 1 hts gL_law_X5_far rfl rfl rfl (by decide +kernel) ⟨Nat.le_of_ble_eq_true rfl, Nat.le_of_ble_eq_true rfl⟩) rfl rfl (Nat.le_of_ble_eq_true rfl) dL_law_263 (fun H locs hP1 hP2 hS => ?_)
  refine lv_aload_n hx hb dL_law_266 rfl (lv_at hl 1 rfl) ?_
  refine lv_aload_n hx hb dL_law_267 rfl (lv_at hl 3 rfl) ?_
  refine lv_iload_n hx hb dL_law_268 rfl (lv_at hl 0 rfl) ?_
  refine lv_iconst (v := 1) hx hb dL_law_269 (by decide) ?_
  refine lv_iadd hx hb dL_law_270 ?_
  refine ls_ld C hS (n := j + 1) (nI_add j 1) (by omega) dL_law_271 ?_
  refine lm_i C hP1 hP2 hS hl.1 [.int (xs (j + 1))] [.int r] (c_X6_far l dC dI cI cZ a2 hD2 g (xs (j + 1)) e2) (cwV 1 hts gL_law_X6_far rfl rfl rfl (by decide +kernel) ⟨Nat.le_of_ble_eq_true rfl, Nat.le_of_ble_eq_true rfl⟩) rfl rfl (Nat.le_of_ble_eq_true rfl) dL_law_272 (fun H locs hP1 hP2 hS => ?_)
  exact lv_icmp_eq (tgt := 454) hx hb dL_law_275 (by decide) (fun _ => kk h g hV H locs ls hP1 hP2 hS hl) (fun c1 => absurd rfl c1)
set_option maxHeartbeats 1000000 in
theorem lc_8 (C : LC p s m meth c b L xs dC dI cI cS cZ a a2) {j : Nat} (hj : j + 2 < L) (hV : INV h g) (kk : ∀ h' g', INV h' g' → LJ p l e s m below meth c b dC dI cI cS cZ a a2 h' g' [(3, .int (nI j)), (2, .ref (a2 0)), (1, .ref (a 0)), (0, .ref b)] 454) : LJ p l e s m below meth c b dC dI cI cS cZ a a2 h g [(3, .int (nI j)), (2, .ref (a2 0)), (1, .ref (a 0)), (0, .ref b)] 280 := by
  obtain ⟨hx, hb, hml, hown, hts, hX, hbl, hK1, hK2, hD1, hD2, hA1, hA2, hdis, hL, hr, hlk⟩ := id C
  obtain ⟨r, h', g', e1, e2, hV'⟩ := eq_cut hV 
  intro H locs ls hP1 hP2 hS hl
  refine lv_aload_n hx hb dL_law_280 rfl (lv_at hl 2 rfl) ?_
  refine lk_i C hP1 hP2 hS hl.1 [] [] (c_X5_cut l dC dI cI cS a hD1 h  e1) (cwV 0 hts gL_law_X5_cut rfl rfl rfl (by decide +kernel) ⟨Nat.le_of_ble_eq_true rfl, Nat.le_of_ble_eq_true rfl⟩) rfl rfl (Nat.le_of_ble_eq_true rfl) dL_law_281 (fun H locs hP1 hP2 hS => ?_)
  refine lv_aload_n hx hb dL_law_284 rfl (lv_at hl 1 rfl) ?_
  refine lm_i C hP1 hP2 hS hl.1 [] [.int r] (c_X6_cut l dC dI cI cZ a2 hD2 g  e2) (cwV 0 hts gL_law_X6_cut rfl rfl rfl (by decide +kernel) ⟨Nat.le_of_ble_eq_true rfl, Nat.le_of_ble_eq_true rfl⟩) rfl rfl (Nat.le_of_ble_eq_true rfl) dL_law_285 (fun H locs hP1 hP2 hS => ?_)
  exact lv_icmp_eq (tgt := 454) hx hb dL_law_288 (by decide) (fun _ => kk h' g' hV' H locs ls hP1 hP2 hS hl) (fun c1 => absurd rfl c1)
set_option maxHeartbeats 1000000 in
theorem lc_9 (C : LC p s m meth c b L xs dC dI cI cS cZ a a2) {j : Nat} (hj : j + 2 < L) (hV : INV h g) (kk : ∀ h' g', INV h' g' → LJ p l e s m below meth c b dC dI cI cS cZ a a2 h' g' [(3, .int (nI j)), (2, .ref (a2 0)), (1, .ref (a 0)), (0, .ref b)] 454) : LJ p l e s m below meth c b dC dI cI cS cZ a a2 h g [(3, .int (nI j)), (2, .ref (a2 0)), (1, .ref (a 0)), (0, .ref b)] 293 := by
  obtain ⟨hx, hb, hml, hown, hts, hX, hbl, hK1, hK2, hD1, hD2, hA1, hA2, hdis, hL, hr, hlk⟩ := id C
  obtain ⟨r, e1, e2⟩ := eq_record hV (xs (j + 1))
  intro H locs ls hP1 hP2 hS hl
  refine lv_aload_n hx hb dL_law_293 rfl (lv_at hl 2 rfl) ?_
  refine lv_aload_n hx hb dL_law_294 rfl (lv_at hl 3 rfl) ?_
  refine lv_iload_n hx hb dL_law_295 rfl (lv_at hl 0 rfl) ?_
  refine lv_iconst (v := 1) hx hb dL_law_296 (by decide) ?_
  refine lv_iadd hx hb dL_law_297 ?_
  refine ls_ld C hS (n := j + 1) (nI_add j 1) (by omega) dL_law_298 ?_
  refine lk_i C hP1 hP2 hS hl.1 [.int (xs (j + 1))] [] (c_X5_record l dC dI cI cS a hD1 h (xs (j + 1)) e1) (cwV 1 hts gL_law_X5_record rfl rfl rfl (by decide +kernel) ⟨Nat.le_of_ble_eq_true rfl, Nat.le_of_ble_eq_true rfl⟩) rfl rfl (Nat.le_of_ble_eq_true rfl) dL_law_299 (fun H locs hP1 hP2 hS => ?_)
  refine lv_aload_n hx hb dL_law_302 rfl (lv_at hl 1 rfl) ?_
  refine lv_aload_n hx hb dL_law_303 rfl (lv_at hl 3 rfl) ?_
  refine lv_iload_n hx hb dL_law_304 rfl (lv_at hl 0 rfl) ?_
  refine lv_iconst (v := 1) hx hb dL_law_305 (by decide) ?_
  refine lv_iadd hx hb dL_law_306 ?_
  refine ls_ld C hS (n := j + 1) (nI_add j 1) (by omega) dL_law_307 ?_
  refine lm_i C hP1 hP2 hS hl.1 [.int (xs (j + 1))] [.int r] (c_X6_record l dC dI cI cZ a2 hD2 g (xs (j + 1)) e2) (cwV 1 hts gL_law_X6_record rfl rfl rfl (by decide +kernel) ⟨Nat.le_of_ble_eq_true rfl, Nat.le_of_ble_eq_true rfl⟩) rfl rfl (Nat.le_of_ble_eq_true rfl) dL_law_308 (fun H locs hP1 hP2 hS => ?_)
  exact lv_icmp_eq (tgt := 454) hx hb dL_law_311 (by decide) (fun _ => kk h g hV H locs ls hP1 hP2 hS hl) (fun c1 => absurd rfl c1)
set_option maxHeartbeats 1000000 in
theorem lc_10 (C : LC p s m meth c b L xs dC dI cI cS cZ a a2) {j : Nat} (hj : j + 2 < L) (hV : INV h g) (kk : ∀ h' g', INV h' g' → LJ p l e s m below meth c b dC dI cI cS cZ a a2 h' g' [(3, .int (nI j)), (2, .ref (a2 0)), (1, .ref (a 0)), (0, .ref b)] 454) : LJ p l e s m below meth c b dC dI cI cS cZ a a2 h g [(3, .int (nI j)), (2, .ref (a2 0)), (1, .ref (a 0)), (0, .ref b)] 316 := by
  obtain ⟨hx, hb, hml, hown, hts, hX, hbl, hK1, hK2, hD1, hD2, hA1, hA2, hdis, hL, hr, hlk⟩ := id C
  obtain ⟨r, e1, e2⟩ := eq_pages hV (xs (j + 1))
  intro H locs ls hP1 hP2 hS hl
  refine lv_aload_n hx hb dL_law_316 rfl (lv_at hl 2 rfl) ?_
  refine lv_aload_n hx hb dL_law_317 rfl (lv_at hl 3 rfl) ?_
  refine lv_iload_n hx hb dL_law_318 rfl (lv_at hl 0 rfl) ?_
  refine lv_iconst (v := 1) hx hb dL_law_319 (by decide) ?_
  refine lv_iadd hx hb dL_law_320 ?_
  refine ls_ld C hS (n := j + 1) (nI_add j 1) (by omega) dL_law_321 ?_
  refine lk_i C hP1 hP2 hS hl.1 [.int (xs (j + 1))] [] (c_X5_pages l dC dI cI cS a hD1 h (xs (j + 1)) e1) (cwV 1 hts gL_law_X5_pages rfl rfl rfl (by decide +kernel) ⟨Nat.le_of_ble_eq_true rfl, Nat.le_of_ble_eq_true rfl⟩) rfl rfl (Nat.le_of_ble_eq_true rfl) dL_law_322 (fun H locs hP1 hP2 hS => ?_)
  refine lv_aload_n hx hb dL_law_325 rfl (lv_at hl 1 rfl) ?_
  refine lv_aload_n hx hb dL_law_326 rfl (lv_at hl 3 rfl) ?_
  refine lv_iload_n hx hb dL_law_327 rfl (lv_at hl 0 rfl) ?_
  refine lv_iconst (v := 1) hx hb dL_law_328 (by decide) ?_
  refine lv_iadd hx hb dL_law_329 ?_
  refine ls_ld C hS (n := j + 1) (nI_add j 1) (by omega) dL_law_330 ?_
  refine lm_i C hP1 hP2 hS hl.1 [.int (xs (j + 1))] [.int r] (c_X6_pages l dC dI cI cZ a2 hD2 g (xs (j + 1)) e2) (cwV 1 hts gL_law_X6_pages rfl rfl rfl (by decide +kernel) ⟨Nat.le_of_ble_eq_true rfl, Nat.le_of_ble_eq_true rfl⟩) rfl rfl (Nat.le_of_ble_eq_true rfl) dL_law_331 (fun H locs hP1 hP2 hS => ?_)
  exact lv_icmp_eq (tgt := 454) hx hb dL_law_334 (by decide) (fun _ => kk h g hV H locs ls hP1 hP2 hS hl) (fun c1 => absurd rfl c1)
set_option maxHeartbeats 1000000 in
theorem lc_11 (C : LC p s m meth c b L xs dC dI cI cS cZ a a2) {j : Nat} (hj : j + 2 < L) (hV : INV h g) (kk : ∀ h' g', INV h' g' → LJ p l e s m below meth c b dC dI cI cS cZ a a2 h' g' [(3, .int (nI j)), (2, .ref (a2 0)), (1, .ref (a 0)), (0, .ref b)] 454) : LJ p l e s m below meth c b dC dI cI cS cZ a a2 h g [(3, .int (nI j)), (2, .ref (a2 0)), (1, .ref (a 0)), (0, .ref b)] 339 := by
  obtain ⟨hx, hb, hml, hown, hts, hX, hbl, hK1, hK2, hD1, hD2, hA1, hA2, hdis, hL, hr, hlk⟩ := id C
  obtain ⟨r, e1, e2⟩ := eq_log hV (xs (j + 1)) (xs (j + 2))
  intro H locs ls hP1 hP2 hS hl
  refine lv_aload_n hx hb dL_law_339 rfl (lv_at hl 2 rfl) ?_
  refine lv_aload_n hx hb dL_law_340 rfl (lv_at hl 3 rfl) ?_
  refine lv_iload_n hx hb dL_law_341 rfl (lv_at hl 0 rfl) ?_
  refine lv_iconst (v := 1) hx hb dL_law_342 (by decide) ?_
  refine lv_iadd hx hb dL_law_343 ?_
  refine ls_ld C hS (n := j + 1) (nI_add j 1) (by omega) dL_law_344 ?_
  refine lv_aload_n hx hb dL_law_345 rfl (lv_at hl 3 rfl) ?_
  refine lv_iload_n hx hb dL_law_346 rfl (lv_at hl 0 rfl) ?_
  refine lv_iconst (v := 2) hx hb dL_law_347 (by decide) ?_
  refine lv_iadd hx hb dL_law_348 ?_
  refine ls_ld C hS (n := j + 2) (nI_add j 2) (by omega) dL_law_349 ?_
  refine lk_i C hP1 hP2 hS hl.1 [.int (xs (j + 1)), .int (xs (j + 2))] [] (c_X5_log l dC dI cI cS a hD1 h (xs (j + 1)) (xs (j + 2)) e1) (cwV 2 hts gL_law_X5_log rfl rfl rfl (by decide +kernel) ⟨Nat.le_of_ble_eq_true rfl, Nat.le_of_ble_eq_true rfl⟩) rfl rfl (Nat.le_of_ble_eq_true rfl) dL_law_350 (fun H locs hP1 hP2 hS => ?_)
  refine lv_aload_n hx hb dL_law_353 rfl (lv_at hl 1 rfl) ?_
  refine lv_aload_n hx hb dL_law_354 rfl (lv_at hl 3 rfl) ?_
  refine lv_iload_n hx hb dL_law_355 rfl (lv_at hl 0 rfl) ?_
  refine lv_iconst (v := 1) hx hb dL_law_356 (by decide) ?_
  refine lv_iadd hx hb dL_law_357 ?_
  refine ls_ld C hS (n := j + 1) (nI_add j 1) (by omega) dL_law_358 ?_
  refine lv_aload_n hx hb dL_law_359 rfl (lv_at hl 3 rfl) ?_
  refine lv_iload_n hx hb dL_law_360 rfl (lv_at hl 0 rfl) ?_
  refine lv_iconst (v := 2) hx hb dL_law_361 (by decide) ?_
  refine lv_iadd hx hb dL_law_362 ?_
  refine ls_ld C hS (n := j + 2) (nI_add j 2) (by omega) dL_law_363 ?_
  refine lm_i C hP1 hP2 hS hl.1 [.int (xs (j + 1)), .int (xs (j + 2))] [.int r] (c_X6_log l dC dI cI cZ a2 hD2 g (xs (j + 1)) (xs (j + 2)) e2) (cwV 2 hts gL_law_X6_log rfl rfl rfl (by decide +kernel) ⟨Nat.le_of_ble_eq_true rfl, Nat.le_of_ble_eq_true rfl⟩) rfl rfl (Nat.le_of_ble_eq_true rfl) dL_law_364 (fun H locs hP1 hP2 hS => ?_)
  exact lv_icmp_eq (tgt := 454) hx hb dL_law_367 (by decide) (fun _ => kk h g hV H locs ls hP1 hP2 hS hl) (fun c1 => absurd rfl c1)
set_option maxHeartbeats 1000000 in
theorem lc_12 (C : LC p s m meth c b L xs dC dI cI cS cZ a a2) {j : Nat} (hj : j + 2 < L) (hV : INV h g) (kk : ∀ h' g', INV h' g' → LJ p l e s m below meth c b dC dI cI cS cZ a a2 h' g' [(3, .int (nI j)), (2, .ref (a2 0)), (1, .ref (a 0)), (0, .ref b)] 454) : LJ p l e s m below meth c b dC dI cI cS cZ a a2 h g [(3, .int (nI j)), (2, .ref (a2 0)), (1, .ref (a 0)), (0, .ref b)] 372 := by
  obtain ⟨hx, hb, hml, hown, hts, hX, hbl, hK1, hK2, hD1, hD2, hA1, hA2, hdis, hL, hr, hlk⟩ := id C
  obtain ⟨r, e1, e2⟩ := eq_register hV (xs (j + 1))
  intro H locs ls hP1 hP2 hS hl
  refine lv_aload_n hx hb dL_law_372 rfl (lv_at hl 2 rfl) ?_
  refine lv_aload_n hx hb dL_law_373 rfl (lv_at hl 3 rfl) ?_
  refine lv_iload_n hx hb dL_law_374 rfl (lv_at hl 0 rfl) ?_
  refine lv_iconst (v := 1) hx hb dL_law_375 (by decide) ?_
  refine lv_iadd hx hb dL_law_376 ?_
  refine ls_ld C hS (n := j + 1) (nI_add j 1) (by omega) dL_law_377 ?_
  refine lk_i C hP1 hP2 hS hl.1 [.int (xs (j + 1))] [] (c_X5_register l dC dI cI cS a hD1 h (xs (j + 1)) e1) (cwV 1 hts gL_law_X5_register rfl rfl rfl (by decide +kernel) ⟨Nat.le_of_ble_eq_true rfl, Nat.le_of_ble_eq_true rfl⟩) rfl rfl (Nat.le_of_ble_eq_true rfl) dL_law_378 (fun H locs hP1 hP2 hS => ?_)
  refine lv_aload_n hx hb dL_law_381 rfl (lv_at hl 1 rfl) ?_
  refine lv_aload_n hx hb dL_law_382 rfl (lv_at hl 3 rfl) ?_
  refine lv_iload_n hx hb dL_law_383 rfl (lv_at hl 0 rfl) ?_
  refine lv_iconst (v := 1) hx hb dL_law_384 (by decide) ?_
  refine lv_iadd hx hb dL_law_385 ?_
  refine ls_ld C hS (n := j + 1) (nI_add j 1) (by omega) dL_law_386 ?_
  refine lm_i C hP1 hP2 hS hl.1 [.int (xs (j + 1))] [.int r] (c_X6_register l dC dI cI cZ a2 hD2 g (xs (j + 1)) e2) (cwV 1 hts gL_law_X6_register rfl rfl rfl (by decide +kernel) ⟨Nat.le_of_ble_eq_true rfl, Nat.le_of_ble_eq_true rfl⟩) rfl rfl (Nat.le_of_ble_eq_true rfl) dL_law_387 (fun H locs hP1 hP2 hS => ?_)
  exact lv_icmp_eq (tgt := 454) hx hb dL_law_390 (by decide) (fun _ => kk h g hV H locs ls hP1 hP2 hS hl) (fun c1 => absurd rfl c1)
set_option maxHeartbeats 1000000 in
theorem lc_13 (C : LC p s m meth c b L xs dC dI cI cS cZ a a2) {j : Nat} (hj : j + 2 < L) (hV : INV h g) (kk : ∀ h' g', INV h' g' → LJ p l e s m below meth c b dC dI cI cS cZ a a2 h' g' [(3, .int (nI j)), (2, .ref (a2 0)), (1, .ref (a 0)), (0, .ref b)] 454) : LJ p l e s m below meth c b dC dI cI cS cZ a a2 h g [(3, .int (nI j)), (2, .ref (a2 0)), (1, .ref (a 0)), (0, .ref b)] 395 := by
  obtain ⟨hx, hb, hml, hown, hts, hX, hbl, hK1, hK2, hD1, hD2, hA1, hA2, hdis, hL, hr, hlk⟩ := id C
  obtain ⟨r, e1, e2⟩ := eq_word hV (xs (j + 1))
  intro H locs ls hP1 hP2 hS hl
  refine lv_aload_n hx hb dL_law_395 rfl (lv_at hl 2 rfl) ?_
  refine lv_aload_n hx hb dL_law_396 rfl (lv_at hl 3 rfl) ?_
  refine lv_iload_n hx hb dL_law_397 rfl (lv_at hl 0 rfl) ?_
  refine lv_iconst (v := 1) hx hb dL_law_398 (by decide) ?_
  refine lv_iadd hx hb dL_law_399 ?_
  refine ls_ld C hS (n := j + 1) (nI_add j 1) (by omega) dL_law_400 ?_
  refine lk_i C hP1 hP2 hS hl.1 [.int (xs (j + 1))] [] (c_X5_word l dC dI cI cS a hD1 h (xs (j + 1)) e1) (cwV 1 hts gL_law_X5_word rfl rfl rfl (by decide +kernel) ⟨Nat.le_of_ble_eq_true rfl, Nat.le_of_ble_eq_true rfl⟩) rfl rfl (Nat.le_of_ble_eq_true rfl) dL_law_401 (fun H locs hP1 hP2 hS => ?_)
  refine lv_aload_n hx hb dL_law_404 rfl (lv_at hl 1 rfl) ?_
  refine lv_aload_n hx hb dL_law_405 rfl (lv_at hl 3 rfl) ?_
  refine lv_iload_n hx hb dL_law_406 rfl (lv_at hl 0 rfl) ?_
  refine lv_iconst (v := 1) hx hb dL_law_407 (by decide) ?_
  refine lv_iadd hx hb dL_law_408 ?_
  refine ls_ld C hS (n := j + 1) (nI_add j 1) (by omega) dL_law_409 ?_
  refine lm_i C hP1 hP2 hS hl.1 [.int (xs (j + 1))] [.int r] (c_X6_word l dC dI cI cZ a2 hD2 g (xs (j + 1)) e2) (cwV 1 hts gL_law_X6_word rfl rfl rfl (by decide +kernel) ⟨Nat.le_of_ble_eq_true rfl, Nat.le_of_ble_eq_true rfl⟩) rfl rfl (Nat.le_of_ble_eq_true rfl) dL_law_410 (fun H locs hP1 hP2 hS => ?_)
  exact lv_icmp_eq (tgt := 454) hx hb dL_law_413 (by decide) (fun _ => kk h g hV H locs ls hP1 hP2 hS hl) (fun c1 => absurd rfl c1)
set_option maxHeartbeats 1000000 in
theorem lc_14 (C : LC p s m meth c b L xs dC dI cI cS cZ a a2) {j : Nat} (hj : j + 2 < L) (hV : INV h g) (kk : ∀ h' g', INV h' g' → LJ p l e s m below meth c b dC dI cI cS cZ a a2 h' g' [(3, .int (nI j)), (2, .ref (a2 0)), (1, .ref (a 0)), (0, .ref b)] 454) : LJ p l e s m below meth c b dC dI cI cS cZ a a2 h g [(3, .int (nI j)), (2, .ref (a2 0)), (1, .ref (a 0)), (0, .ref b)] 418 := by
  obtain ⟨hx, hb, hml, hown, hts, hX, hbl, hK1, hK2, hD1, hD2, hA1, hA2, hdis, hL, hr, hlk⟩ := id C
  obtain ⟨r, e1, e2⟩ := eq_outs hV 
  intro H locs ls hP1 hP2 hS hl
  refine lv_aload_n hx hb dL_law_418 rfl (lv_at hl 2 rfl) ?_
  refine lk_i C hP1 hP2 hS hl.1 [] [] (c_X5_outs l dC dI cI cS a hD1 h  e1) (cwV 0 hts gL_law_X5_outs rfl rfl rfl (by decide +kernel) ⟨Nat.le_of_ble_eq_true rfl, Nat.le_of_ble_eq_true rfl⟩) rfl rfl (Nat.le_of_ble_eq_true rfl) dL_law_419 (fun H locs hP1 hP2 hS => ?_)
  refine lv_aload_n hx hb dL_law_422 rfl (lv_at hl 1 rfl) ?_
  refine lm_i C hP1 hP2 hS hl.1 [] [.int r] (c_X6_outs l dC dI cI cZ a2 hD2 g  e2) (cwV 0 hts gL_law_X6_outs rfl rfl rfl (by decide +kernel) ⟨Nat.le_of_ble_eq_true rfl, Nat.le_of_ble_eq_true rfl⟩) rfl rfl (Nat.le_of_ble_eq_true rfl) dL_law_423 (fun H locs hP1 hP2 hS => ?_)
  exact lv_icmp_eq (tgt := 454) hx hb dL_law_426 (by decide) (fun _ => kk h g hV H locs ls hP1 hP2 hS hl) (fun c1 => absurd rfl c1)
set_option maxHeartbeats 1000000 in
theorem lc_15 (C : LC p s m meth c b L xs dC dI cI cS cZ a a2) {j : Nat} (hj : j + 2 < L) (hV : INV h g) (kk : ∀ h' g', INV h' g' → LJ p l e s m below meth c b dC dI cI cS cZ a a2 h' g' [(3, .int (nI j)), (2, .ref (a2 0)), (1, .ref (a 0)), (0, .ref b)] 454) : LJ p l e s m below meth c b dC dI cI cS cZ a a2 h g [(3, .int (nI j)), (2, .ref (a2 0)), (1, .ref (a 0)), (0, .ref b)] 431 := by
  obtain ⟨hx, hb, hml, hown, hts, hX, hbl, hK1, hK2, hD1, hD2, hA1, hA2, hdis, hL, hr, hlk⟩ := id C
  obtain ⟨r, e1, e2⟩ := eq_out hV (xs (j + 1))
  intro H locs ls hP1 hP2 hS hl
  refine lv_aload_n hx hb dL_law_431 rfl (lv_at hl 2 rfl) ?_
  refine lv_aload_n hx hb dL_law_432 rfl (lv_at hl 3 rfl) ?_
  refine lv_iload_n hx hb dL_law_433 rfl (lv_at hl 0 rfl) ?_
  refine lv_iconst (v := 1) hx hb dL_law_434 (by decide) ?_
  refine lv_iadd hx hb dL_law_435 ?_
  refine ls_ld C hS (n := j + 1) (nI_add j 1) (by omega) dL_law_436 ?_
  refine lk_i C hP1 hP2 hS hl.1 [.int (xs (j + 1))] [] (c_X5_out l dC dI cI cS a hD1 h (xs (j + 1)) e1) (cwV 1 hts gL_law_X5_out rfl rfl rfl (by decide +kernel) ⟨Nat.le_of_ble_eq_true rfl, Nat.le_of_ble_eq_true rfl⟩) rfl rfl (Nat.le_of_ble_eq_true rfl) dL_law_437 (fun H locs hP1 hP2 hS => ?_)
  refine lv_aload_n hx hb dL_law_440 rfl (lv_at hl 1 rfl) ?_
  refine lv_aload_n hx hb dL_law_441 rfl (lv_at hl 3 rfl) ?_
  refine lv_iload_n hx hb dL_law_442 rfl (lv_at hl 0 rfl) ?_
  refine lv_iconst (v := 1) hx hb dL_law_443 (by decide) ?_
  refine lv_iadd hx hb dL_law_444 ?_
  refine ls_ld C hS (n := j + 1) (nI_add j 1) (by omega) dL_law_445 ?_
  refine lm_i C hP1 hP2 hS hl.1 [.int (xs (j + 1))] [.int r] (c_X6_out l dC dI cI cZ a2 hD2 g (xs (j + 1)) e2) (cwV 1 hts gL_law_X6_out rfl rfl rfl (by decide +kernel) ⟨Nat.le_of_ble_eq_true rfl, Nat.le_of_ble_eq_true rfl⟩) rfl rfl (Nat.le_of_ble_eq_true rfl) dL_law_446 (fun H locs hP1 hP2 hS => ?_)
  exact lv_icmp_eq (tgt := 454) hx hb dL_law_449 (by decide) (fun _ => kk h g hV H locs ls hP1 hP2 hS hl) (fun c1 => absurd rfl c1)
end LAW
