/-! THE LAW, 4: from its entry -/
def mbw (cI cZ : ClassId) (h0 : Nat) (v : Int32) (u : Nat → Nat) : va_W := [(h0, .inr (6, [.int v, .ref (u 1), .ref (u 2), .ref (u 3), .int 0, .int 0, .int 0, .ref (u 4), .int 0, .int 0, .int 0, .int 0, .ref (u 5), .ref (u 6), .ref (u 7), .int 0, .int 0, .int 0, .ref (u 8), .ref (u 9), .ref (u 10), .int 0, .int 0])), ((u 1), .inl (cI, 512, .inl (fun _ => 0))), ((u 2), .inl (cI, 512, .inl (fun _ => 0))), ((u 3), .inl (cI, 8, .inl (fun _ => 0))), ((u 4), .inl (cI, 64, .inl (fun _ => 0))), ((u 5), .inl (cI, 300, .inl (fun _ => 0))), ((u 6), .inl (cI, 300, .inl (fun _ => 0))), ((u 7), .inl (cI, 300, .inl (fun _ => 0))), ((u 8), .inl (cI, 40, .inl (fun _ => 0))), ((u 9), .inl (cZ, 32, .inl (fun _ => 0))), ((u 10), .inl (cI, 100, .inl (fun _ => 0)))]
def mba (h0 : Nat) (u : Nat → Nat) (i : Nat) : Nat := match i with
  | 0 => h0
  | i + 1 => u (i + 1)
theorem mbw_at (cI cZ : ClassId) (h0 : Nat) (v : Int32) (u : Nat → Nat) : ∀ i, i < 11 → (mbw cI cZ h0 v u)[i]? = some (mba h0 u i, mcf cI cZ (mba h0 u) i (k0h v i)) := by
  intro i hi
  match i, hi with
  | 0, _ => rfl
  | 1, _ => rw [k0h_ne v (by decide)]; rfl
  | 2, _ => rw [k0h_ne v (by decide)]; rfl
  | 3, _ => rw [k0h_ne v (by decide)]; rfl
  | 4, _ => rw [k0h_ne v (by decide)]; rfl
  | 5, _ => rw [k0h_ne v (by decide)]; rfl
  | 6, _ => rw [k0h_ne v (by decide)]; rfl
  | 7, _ => rw [k0h_ne v (by decide)]; rfl
  | 8, _ => rw [k0h_ne v (by decide)]; rfl
  | 9, _ => rw [k0h_ne v (by decide)]; rfl
  | 10, _ => rw [k0h_ne v (by decide)]; rfl
theorem kbx_len (cI cS : ClassId) (v : Int32) (u : Nat → Nat) : (kbx cI cS v u).length = 95 := by simp [kbx, xw]
theorem kbx_at {cI cS : ClassId} {v : Int32} {u : Nat → Nat} {X : va_W} {i : Nat} (hi : i < 95) : (kbx cI cS v u ++ X)[i]? = some (u i, kcf cI cS u i (k0h v i)) := by
  rw [List.getElem?_append_left (by rw [kbx_len]; exact hi)]
  exact xw_at hi
theorem kmx_at {cI cS cZ : ClassId} {v : Int32} {u u2 : Nat → Nat} {h0 i : Nat} (hi : i < 11) : (kbx cI cS v u ++ mbw cI cZ h0 v u2)[95 + i]? = some (mba h0 u2 i, mcf cI cZ (mba h0 u2) i (k0h v i)) := by
  rw [List.getElem?_append_right (by rw [kbx_len]; omega), kbx_len, show 95 + i - 95 = i by omega]
  exact mbw_at cI cZ h0 v u2 i hi
theorem arr_int {s : State} {A : Array Value} {ty : FieldType} (hty : ∀ C, ty ≠ .object C) (h : (Cond.arrayClass ty).before A s = true) : ∃ cA : ClassId, ArrOfT s cA ty ∧ va_RA s cA ty := by
  obtain ⟨cA, kA, comp, h1, h2, h3⟩ := Cond.arrayClass_spec h
  refine ⟨cA, fun N z => ⟨(fun k h => by cases h), kA, h2, comp, h3⟩, ?_⟩
  cases ty with
  | object C => exact absurd rfl (hty C)
  | _ => exact h1
theorem arr_obj {s : State} {A : Array Value} {C : String} (h : (Cond.arrayOver (.object C)).before A s = true) : ∃ cA : ClassId, ArrOfT s cA (.object C) ∧ va_RA s cA (.object C) := by
  obtain ⟨comp, cA, kA, h1, h2, h3, h4, h5⟩ := Cond.arrayOver_spec h
  exact ⟨cA, fun N z => ⟨(fun k h => by cases h), kA, h3, comp, h4⟩, kA, comp, h3, h4, h1, h5⟩
theorem k_two {D : va_G} {s : State} {q1 q2 : ClassId × FieldType} (hKc : ∀ (k : Nat) (q : vw_C), vwCl[k]? = some q → u_Kn s q.1 q.2.1 q.2.2 (D.1 k) (D.2 k)) (h1 : ArrOfT s q1.1 q1.2 ∧ va_RA s q1.1 q1.2) (h2 : ArrOfT s q2.1 q2.2 ∧ va_RA s q2.1 q2.2) : va_K D vwCl [q1, q2] s := by
  refine ⟨hKc, fun k q hq => ?_⟩
  match k, hq with
  | 0, hq => cases hq; exact h1
  | 1, hq => cases hq; exact h2
set_option maxHeartbeats 8000000 in
set_option maxRecDepth 100000 in
theorem whole_start {p : Program} {e : Env} {s : State} {m : MethodId} {below : List Frame} {meth : Method} {c : Code} (l : Launch) {b L : Nat} {xs : Nat → Int32} (hL : L ≤ 1537) (C0 : lw_At p s m meth c b L xs) : W p l e room_1 s m #[Value.ref b] below meth c s.heap [] 0 0 (lw_Z below #[Value.ref b] s) (entryFrame m ([Value.ref b] : List Value).toArray 4) := by
  obtain ⟨hx, hb, hr, hml, hown, hts, hX, hbl, hlocks, hgv⟩ := id C0
  have htl : ∀ w ∈ wsL_law, w.before #[Value.ref b] s = true := fun w h => hts w (wsL_law_in w h)
  have hown : s.vm.findClass RL = some m.cls := hown
  have hA : ∀ q : Nat, s.heap.size ≤ q → (fun q : Nat => s.heap.size ≤ q) q := fun _ h => h
  have hbA : ¬ (fun q : Nat => s.heap.size ≤ q) b := Nat.not_le.mpr hbl
  obtain ⟨x0, hx0⟩ : ∃ y : Int32, y = (if 0 < L then xs 0 else 0) := ⟨_, rfl⟩
  obtain ⟨k0, iS0, hKn0⟩ := u_known (C := RX0) (T := TX0) (N := 3) (n := 3) htl inlX0 (htl (.instantiable RX0 3) (by decide +kernel))
  obtain ⟨k1, iS1, hKn1⟩ := u_known (C := RX1) (T := TX1) (N := 4) (n := 4) htl inlX1 (htl (.instantiable RX1 4) (by decide +kernel))
  obtain ⟨k2, iS2, hKn2⟩ := u_known (C := RX2) (T := TX2) (N := 8) (n := 8) htl inlX2 (htl (.instantiable RX2 8) (by decide +kernel))
  obtain ⟨k3, iS3, hKn3⟩ := u_known (C := RX3) (T := TX3) (N := 7) (n := 7) htl inlX3 (htl (.instantiable RX3 7) (by decide +kernel))
  obtain ⟨k4, iS4, hKn4⟩ := u_known (C := RX4) (T := TX4) (N := 5) (n := 5) htl inlX4 (htl (.instantiable RX4 5) (by decide +kernel))
  obtain ⟨k5, iS5, hKn5⟩ := u_known (C := RX5) (T := TX5) (N := 9) (n := 9) htl inlX5 (htl (.instantiable RX5 9) (by decide +kernel))
  obtain ⟨k6, iS6, hKn6⟩ := u_known (C := RX6) (T := TX6) (N := 23) (n := 23) htl inlX6 (htl (.instantiable RX6 23) (by decide +kernel))
  obtain ⟨dC, dI, hKc⟩ : ∃ (dC : Nat → ClassId) (dI : Nat → Nat → Nat), ∀ (k : Nat) (q : vw_C), vwCl[k]? = some q → u_Kn s q.1 q.2.1 q.2.2 (dC k) (dI k) := by
    refine ⟨fun k => match k with | 0 => k0 | 1 => k1 | 2 => k2 | 3 => k3 | 4 => k4 | 5 => k5 | _ => k6, fun k => match k with | 0 => iS0 | 1 => iS1 | 2 => iS2 | 3 => iS3 | 4 => iS4 | 5 => iS5 | _ => iS6, ?_⟩
    intro k q hq
    match k, hq with
    | 0, hq => cases hq; exact hKn0
    | 1, hq => cases hq; exact hKn1
    | 2, hq => cases hq; exact hKn2
    | 3, hq => cases hq; exact hKn3
    | 4, hq => cases hq; exact hKn4
    | 5, hq => cases hq; exact hKn5
    | 6, hq => cases hq; exact hKn6
    | k + 7, hq => simp [vwCl] at hq
  obtain ⟨cI, hI⟩ := arr_int (ty := .int) (fun C h => by cases h) (htl (.arrayClass .int) (by decide +kernel))
  obtain ⟨cZ, hZ⟩ := arr_int (ty := .boolean) (fun C h => by cases h) (htl (.arrayClass .boolean) (by decide +kernel))
  have hAO0 := hts (.arrayOver (.object "RewindBox$Snapshot")) (by decide +kernel)
  obtain ⟨cS, hSn⟩ := arr_obj hAO0
  have hAO : va_AO "RewindBox$Snapshot" s := va_AO.of hAO0
  have hNw : va_Nw (.methodLinkNest RX2 58 yX5_placeOf "RewindBox") s := va_Nw.of rfl (hts (.methodLinkNest RX2 58 yX5_placeOf "RewindBox") (by decide +kernel))
  have hK1 : va_K (dC, dI) vwCl [(cI, .int), (cS, .object "RewindBox$Snapshot")] s := k_two hKc hI hSn
  have hK2 : va_K (dC, dI) vwCl [(cI, .int), (cZ, .boolean)] s := k_two hKc hI hZ
  have hS : va_S (fun q : Nat => s.heap.size ≤ q) s.heap s.heap [] := va_S.rf
  have hP : va_P (dC, dI) vwCl [] s.heap := fun k q h => by simp at h
  have hD : va_D (fun q : Nat => s.heap.size ≤ q) [] := ⟨fun i j p q h => by simp at h, fun k q h => by simp at h⟩
  have hl := lv_entry ([.ref b]) (n := 4) (Nat.le_of_ble_eq_true rfl)
  rw [lg_entry_eq]
  generalize (lg_sl ([.ref b]) ++ List.replicate (4 - (lg_sl ([.ref b])).length) Slot.unset).toArray = ls at hl ⊢
  have hl : lv_has ls 4 [(0, .ref b)] := hl
  refine va_new (ci := 5) (fs := [.int 0, .null, .null, .null, .null, .int 0, .int 0, .int 0, .int 0]) (C := RX5) (T := TX5) (N := 9) hx hb htl inlX5 tyX5 tyX5_ok hown (htl (.classLink RL 7 RX5) (by decide +kernel)) (htl (.instantiable RX5 9) (by decide +kernel)) (htl (.initialized RX5) (by decide +kernel)) hK1 hP hD hS hA rfl (fun j hj => by rcases (show j = 0 ∨ j = 1 ∨ j = 2 ∨ j = 3 ∨ j = 4 ∨ j = 5 ∨ j = 6 ∨ j = 7 ∨ j = 8 by omega) with rfl | rfl | rfl | rfl | rfl | rfl | rfl | rfl | rfl <;> rfl) (Nat.le_of_ble_eq_true rfl) (Nat.le_of_ble_eq_true rfl) dL_law_0 (fun q H hP hD hS => ?_)
  refine W.widen (k := 1) (n := 9) (by decide) (by decide) ?_
  refine lv_dup hx hb dL_law_3 rfl ?_
  refine lv_aload_n hx hb dL_law_4 rfl (lv_at hl 0 rfl) ?_
  refine lv_iconst (v := 0) hx hb dL_law_5 (by decide) ?_
  refine va_calli (va_runS (As := [.ref b, .int 0]) (rest := [.ref q, .ref q]) ⟨hx, hb, hml, hown, htl⟩ (c_cell l b L xs hL) (va_cwS 2 htl gL_law_L_cell rfl rfl rfl (by decide +kernel) ⟨Nat.le_of_ble_eq_true rfl, Nat.le_of_ble_eq_true rfl⟩) ⟨fun A9 U g9 mk z => ⟨z.1, va_X.moved (u := U) (U := U.calling g9 mk A9) (Vm.Alike.refl U.vm) z.2⟩, fun U hU hW => ⟨rfl, by show va_X b L xs U U.heap; rw [hU]; exact (va_X.moved hW.alike hX).kept (hS.2.1 b hbl hbA)⟩⟩ rfl rfl hl.1 rfl (lv_room (Nat.le_of_ble_eq_true rfl)) dL_law_6 ⟨Nat.le_of_ble_eq_true rfl, Nat.le_of_ble_eq_true rfl⟩) hS (fun _ _ z => z.elim) (fun _ z => z.elim) (fun r9 _ _ H1 locs1 _ _ hr9 _ _ hkp hS1 => ?_)
  have hP := hP.kept (H1 := H1) (fun k q hk => hkp q.1 (hP k q hk).lt (fun z => z))
  have hr9 : r9 = x0 := hr9.trans hx0.symm
  rw [hr9]
  generalize H1 = H at hP hS1 ⊢
  generalize locs1 = locs at hS1 ⊢
  have hS := hS1
  clear hS1 hkp
  refine W.widen (k := 1) (n := 9) (by decide) (by decide) ?_
  refine cv_init (ws := []) (As := [.int x0]) (rest := [.ref q]) ⟨hx, hb, hml, hown, htl⟩ (c_X5_init l dC dI cI cS q H.size x0) (cwI 1 htl gL_law_X5_init rfl rfl rfl (htl (.initialized RX5) (by decide +kernel)) (htl (.methodLink RL 15 yX5_init) (by decide +kernel)) (htl (.instanceMethod yX5_init) (by decide +kernel)) rfl (by decide +kernel) ⟨Nat.le_of_ble_eq_true rfl, Nat.le_of_ble_eq_true rfl⟩) (fun U hW => ⟨va_K.moved hW.alike hK1, va_AO.moved hW.alike hAO⟩) (fun U V hv h9 => ⟨va_K.moved (by rw [hv]; exact Vm.Alike.refl _) h9.1, va_AO.moved (by rw [hv]; exact Vm.Alike.refl _) h9.2⟩) hP hD hS hA rfl hl.1 rfl (Nat.le_of_ble_eq_true rfl) dL_law_9 ⟨Nat.le_of_ble_eq_true rfl, Nat.le_of_ble_eq_true rfl⟩ (fun a H locs ha0 hP hD hS => ?_)
  have hPk : va_P (dC, dI) vwCl (kbx cI cS (mclamp x0) a) H := hP
  have hDk : va_D (fun q : Nat => s.heap.size ≤ q) (kbx cI cS (mclamp x0) a) := hD
  refine W.widen (k := 95) (n := 7565) (by decide) (by decide) ?_
  subst ha0
  have hP := hPk
  have hD := hDk
  refine lv_astore_n (lv' := [(1, .ref (a 0)), (0, .ref b)]) hx hb dL_law_12 rfl hl (by decide) rfl (fun ls hl => ?_)
  refine va_new (ci := 6) (fs := [.int 0, .null, .null, .null, .int 0, .int 0, .int 0, .null, .int 0, .int 0, .int 0, .int 0, .null, .null, .null, .int 0, .int 0, .int 0, .null, .null, .null, .int 0, .int 0]) (C := RX6) (T := TX6) (N := 23) hx hb htl inlX6 tyX6 tyX6_ok hown (htl (.classLink RL 18 RX6) (by decide +kernel)) (htl (.instantiable RX6 23) (by decide +kernel)) (htl (.initialized RX6) (by decide +kernel)) hK2 hP hD hS hA rfl (fun j hj => by rcases (show j = 0 ∨ j = 1 ∨ j = 2 ∨ j = 3 ∨ j = 4 ∨ j = 5 ∨ j = 6 ∨ j = 7 ∨ j = 8 ∨ j = 9 ∨ j = 10 ∨ j = 11 ∨ j = 12 ∨ j = 13 ∨ j = 14 ∨ j = 15 ∨ j = 16 ∨ j = 17 ∨ j = 18 ∨ j = 19 ∨ j = 20 ∨ j = 21 ∨ j = 22 by omega) with rfl | rfl | rfl | rfl | rfl | rfl | rfl | rfl | rfl | rfl | rfl | rfl | rfl | rfl | rfl | rfl | rfl | rfl | rfl | rfl | rfl | rfl | rfl <;> rfl) (Nat.le_of_ble_eq_true rfl) (Nat.le_of_ble_eq_true rfl) dL_law_13 (fun q H hP hD hS => ?_)
  refine W.widen (k := 96) (n := 7588) (by decide) (by decide) ?_
  refine lv_dup hx hb dL_law_16 rfl ?_
  refine lv_aload_n hx hb dL_law_17 rfl (lv_at hl 1 rfl) ?_
  refine lv_iconst (v := 0) hx hb dL_law_18 (by decide) ?_
  refine va_calli (va_runS (As := [.ref b, .int 0]) (rest := [.ref q, .ref q]) ⟨hx, hb, hml, hown, htl⟩ (c_cell l b L xs hL) (va_cwS 2 htl gL_law_L_cell rfl rfl rfl (by decide +kernel) ⟨Nat.le_of_ble_eq_true rfl, Nat.le_of_ble_eq_true rfl⟩) ⟨fun A9 U g9 mk z => ⟨z.1, va_X.moved (u := U) (U := U.calling g9 mk A9) (Vm.Alike.refl U.vm) z.2⟩, fun U hU hW => ⟨rfl, by show va_X b L xs U U.heap; rw [hU]; exact (va_X.moved hW.alike hX).kept (hS.2.1 b hbl hbA)⟩⟩ rfl rfl hl.1 rfl (lv_room (Nat.le_of_ble_eq_true rfl)) dL_law_19 ⟨Nat.le_of_ble_eq_true rfl, Nat.le_of_ble_eq_true rfl⟩) hS (fun _ _ z => z.elim) (fun _ z => z.elim) (fun r9 _ _ H1 locs1 _ _ hr9 _ _ hkp hS1 => ?_)
  have hP := hP.kept (H1 := H1) (fun k q hk => hkp q.1 (hP k q hk).lt (fun z => z))
  have hr9 : r9 = x0 := hr9.trans hx0.symm
  rw [hr9]
  generalize H1 = H at hP hS1 ⊢
  generalize locs1 = locs at hS1 ⊢
  have hS := hS1
  clear hS1 hkp
  refine W.widen (k := 96) (n := 7588) (by decide) (by decide) ?_
  refine cv_init (ws := kbx cI cS (mclamp x0) a) (As := [.int x0]) (rest := [.ref q]) ⟨hx, hb, hml, hown, htl⟩ (c_X6_init l dC dI cI cZ q H.size x0) (cwI 1 htl gL_law_X6_init rfl rfl rfl (htl (.initialized RX6) (by decide +kernel)) (htl (.methodLink RL 20 yX6_init) (by decide +kernel)) (htl (.instanceMethod yX6_init) (by decide +kernel)) rfl (by decide +kernel) ⟨Nat.le_of_ble_eq_true rfl, Nat.le_of_ble_eq_true rfl⟩) (fun U hW => va_K.moved hW.alike hK2) (fun U V hv h9 => va_K.moved (by rw [hv]; exact Vm.Alike.refl _) h9) hP hD hS hA rfl hl.1 rfl (Nat.le_of_ble_eq_true rfl) dL_law_22 ⟨Nat.le_of_ble_eq_true rfl, Nat.le_of_ble_eq_true rfl⟩ (fun u H locs _ hP hD hS => ?_)
  have hP : va_P (dC, dI) vwCl (kbx cI cS (mclamp x0) a ++ mbw cI cZ q (mclamp x0) u) H := hP
  have hD : va_D (fun q : Nat => s.heap.size ≤ q) (kbx cI cS (mclamp x0) a ++ mbw cI cZ q (mclamp x0) u) := hD
  refine W.widen (k := 600000) (n := 7302250) (by decide) (by decide) ?_
  refine lv_astore_n (lv' := [(2, .ref q), (1, .ref (a 0)), (0, .ref b)]) hx hb dL_law_25 rfl hl (by decide) rfl (fun ls hl => ?_)
  refine lv_iconst (v := 1) hx hb dL_law_26 (by decide) ?_
  refine lv_istore_n (lv' := [(3, .int (nI 1)), (2, .ref q), (1, .ref (a 0)), (0, .ref b)]) hx hb dL_law_27 rfl hl (by decide) rfl (fun ls hl => ?_)
  have hP1 : va_P (dC, dI) vwCl (xw 95 a (kcf cI cS a) (k0h (mclamp x0))) H := xp_P (fun i => i) (fun i hi => kbx_at hi) hP
  have hP2 : va_P (dC, dI) vwCl (xw 11 (mba q u) (mcf cI cZ (mba q u)) (k0h (mclamp x0))) H := xp_P (fun i => 95 + i) (fun i hi => kmx_at hi) hP
  have hd1 : xD 95 a := fun i j hi hj e9 => hD.1 i j _ _ (kbx_at hi) (kbx_at hj) e9
  have hd2 : xD 11 (mba q u) := fun i j hi hj e9 => by
    have := hD.1 (95 + i) (95 + j) _ _ (kmx_at hi) (kmx_at hj) e9
    omega
  have hd3 : ∀ i j, i < 95 → j < 11 → a i ≠ mba q u j := fun i j hi hj e9 => by
    have := hD.1 i (95 + j) _ _ (kbx_at hi) (kmx_at hj) e9
    omega
  have ha1 : ∀ i, i < 95 → s.heap.size ≤ a i := fun i hi => hD.2 i _ (kbx_at hi)
  have ha2 : ∀ i, i < 11 → s.heap.size ≤ mba q u i := fun i hi => hD.2 (95 + i) _ (kmx_at hi)
  obtain ⟨I, hI2, eI⟩ := mclamp_nI x0
  rw [eI] at hP1 hP2
  have C : LC p s m meth c b L xs dC dI cI cS cZ a (mba q u) := ⟨hx, hb, hml, hown, htl, hX, hbl, ⟨hK1, fun q9 h9 => by
    cases h9 with
    | head => exact hNw
    | tail _ h9 => cases h9⟩, ⟨hK2, fun q9 h9 => by cases h9⟩, hd1, hd2, ha1, ha2, hd3, hL, hr, hlocks⟩
  exact l_loop C L 1 _ _ (by omega) (by decide) (inv_new hI2) H locs ls hP1 hP2 hS hl
