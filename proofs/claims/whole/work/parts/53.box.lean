/-! CONSTRUCTORS, 4: the box -/
section CV
theorem xp_P {D : va_G} {cl : List vw_C} {ws : va_W} {n : Nat} {a : Nat → Nat} {cf : Nat → (Nat → Int32) → va_E} {h : hp} {H : Heap} (pos : Nat → Nat) (hat : ∀ i, i < n → ws[pos i]? = some (a i, cf i (h i))) (hP : va_P D cl ws H) : va_P D cl (xw n a cf h) H := by
  intro k q hk
  obtain ⟨hk9, rfl⟩ := xw_of hk
  exact hP (pos k) _ (hat k hk9)
theorem xp_D {A : Nat → Prop} {ws : va_W} {n : Nat} {a : Nat → Nat} {cf : Nat → (Nat → Int32) → va_E} {h : hp} (pos : Nat → Nat) (inj : ∀ i j, i < n → j < n → pos i = pos j → i = j) (hat : ∀ i, i < n → ws[pos i]? = some (a i, cf i (h i))) (hD : va_D A ws) : va_D A (xw n a cf h) := by
  refine ⟨fun i j p q h1 h2 h3 => ?_, fun k q hk => ?_⟩
  · obtain ⟨a1, rfl⟩ := xw_of h1
    obtain ⟨b1, rfl⟩ := xw_of h2
    exact inj i j a1 b1 (hD.1 (pos i) (pos j) _ _ (hat i a1) (hat j b1) h3)
  · obtain ⟨a1, rfl⟩ := xw_of hk
    exact hD.2 (pos k) _ (hat k a1)
theorem k0h_ne (v : Int32) {i : Nat} (h : i ≠ 0) : k0h v i = fun _ => 0 := by
  funext k
  unfold k0h
  rw [if_neg (fun z => h z.1)]
theorem mclamp_mm (x : Int32) : (if (2 : Int32) < (if (64 : Int32) < x then 64 else x) then (if (64 : Int32) < x then 64 else x) else 2) = mclamp x := by
  have e2 : (2 : Int32).toInt = 2 := by decide
  have e64 : (64 : Int32).toInt = 64 := by decide
  unfold mclamp
  by_cases c1 : (64 : Int32) < x
  · have c1' := Int32.lt_iff_toInt_lt.mp c1
    rw [if_pos c1, if_pos (by decide), if_pos (Int32.le_iff_toInt_le.mpr (by omega)), if_neg (fun z => by have := Int32.le_iff_toInt_le.mp z; omega)]
  · have c1' : ¬ (64 : Int32).toInt < x.toInt := fun z => c1 (Int32.lt_iff_toInt_lt.mpr z)
    rw [if_neg c1]
    by_cases c2 : (2 : Int32) < x
    · have c2' := Int32.lt_iff_toInt_lt.mp c2
      rw [if_pos c2, if_pos (Int32.le_iff_toInt_le.mpr (by omega)), if_pos (Int32.le_iff_toInt_le.mpr (by omega))]
    · have c2' : ¬ (2 : Int32).toInt < x.toInt := fun z => c2 (Int32.lt_iff_toInt_lt.mpr z)
      rw [if_neg c2]
      by_cases c3 : (2 : Int32) ≤ x
      · have c3' := Int32.le_iff_toInt_le.mp c3
        rw [if_pos c3, if_pos (Int32.le_iff_toInt_le.mpr (by omega))]
        exact Int32.toInt_inj.mp (by omega)
      · rw [if_neg c3]
theorem mclamp_nI (x : Int32) : ∃ I : Nat, (2 ≤ I ∧ I ≤ 64) ∧ mclamp x = nI I := by
  have e2 : (2 : Int32).toInt = 2 := by decide
  have e64 : (64 : Int32).toInt = 64 := by decide
  unfold mclamp
  by_cases c3 : (2 : Int32) ≤ x
  · have c3' := Int32.le_iff_toInt_le.mp c3
    rw [if_pos c3]
    by_cases c1 : x ≤ 64
    · have c1' := Int32.le_iff_toInt_le.mp c1
      rw [if_pos c1]
      refine ⟨x.toInt.toNat, by omega, ?_⟩
      refine Int32.toInt_inj.mp ?_
      rw [nI_toInt (by omega)]
      omega
    · rw [if_neg c1]
      exact ⟨64, by decide, rfl⟩
  · rw [if_neg c3]
    exact ⟨2, by decide, rfl⟩
/-- the cells of a new box -/
def kbw (cI cS : ClassId) (h0 : Nat) (v : Int32) (qm : Nat) (um : Nat × Nat × Nat) (qi ui ql : Nat) (ul : Nat × Nat × Nat) (qs : Nat) (us : Nat × Nat × Nat × (Nat → Nat)) : va_W := (h0, .inr (5, [.int v, .ref qm, .ref qi, .ref ql, .ref qs, .int 0, .int 0, .int 0, .int 0])) :: (qm, .inr (2, [.ref um.1, .ref um.2.1, .ref um.2.2, .int 0, .int 0, .int 0, .int 0, .int 0])) :: (um.1, .inl (cI, 8, .inl (fun _ => 0))) :: (um.2.1, .inl (cI, 512, .inl (fun _ => 0))) :: (um.2.2, .inl (cI, 64, .inl (fun _ => 0))) :: (qi, .inr (0, [.ref ui, .int 0, .int 0])) :: (ui, .inl (cI, 100, .inl (fun _ => 0))) :: (ql, .inr (1, [.ref ul.1, .ref ul.2.1, .ref ul.2.2, .int 0])) :: (ul.1, .inl (cI, 300, .inl (fun _ => 0))) :: (ul.2.1, .inl (cI, 300, .inl (fun _ => 0))) :: (ul.2.2, .inl (cI, 300, .inl (fun _ => 0))) :: snw cI cS qs us
def kba (h0 : Nat) (qm : Nat) (um : Nat × Nat × Nat) (qi ui ql : Nat) (ul : Nat × Nat × Nat) (qs : Nat) (us : Nat × Nat × Nat × (Nat → Nat)) (i : Nat) : Nat := match i with
  | 0 => h0 | 1 => qm | 2 => um.1 | 3 => um.2.1 | 4 => um.2.2 | 5 => qi | 6 => ui | 7 => ql | 8 => ul.1 | 9 => ul.2.1 | 10 => ul.2.2 | 11 => qs | 12 => us.1 | 13 => us.2.1 | 14 => us.2.2.1 | k + 15 => us.2.2.2 k
def kbp (i : Nat) : Nat := if i < 15 then i else if i < 55 then 15 + 2 * (i - 15) else 16 + 2 * (i - 55)
theorem kbp_inj : ∀ i j, i < 95 → j < 95 → kbp i = kbp j → i = j := by
  intro i j hi hj h
  unfold kbp at h
  by_cases a1 : i < 15 <;> by_cases a2 : i < 55 <;> by_cases b1 : j < 15 <;> by_cases b2 : j < 55 <;> simp only [a1, a2, b1, b2, if_true, if_false] at h <;> omega
theorem kbw_tail (cI cS : ClassId) (h0 : Nat) (v : Int32) (qm : Nat) (um : Nat × Nat × Nat) (qi ui ql : Nat) (ul : Nat × Nat × Nat) (qs : Nat) (us : Nat × Nat × Nat × (Nat → Nat)) (k : Nat) : (kbw cI cS h0 v qm um qi ui ql ul qs us)[15 + k]? = (plf cI us.2.2.2 (fun k => us.2.2.2 (k + 40)) 40)[k]? := by
  rw [Nat.add_comm]
  rfl
theorem kbw_at (cI cS : ClassId) (h0 : Nat) (v : Int32) (qm : Nat) (um : Nat × Nat × Nat) (qi ui ql : Nat) (ul : Nat × Nat × Nat) (qs : Nat) (us : Nat × Nat × Nat × (Nat → Nat)) : ∀ i, i < 95 → (kbw cI cS h0 v qm um qi ui ql ul qs us)[kbp i]? = some (kba h0 qm um qi ui ql ul qs us i, kcf cI cS (kba h0 qm um qi ui ql ul qs us) i (k0h v i)) := by
  intro i hi
  match i, hi with
  | 0, _ => rfl
  | 1, _ => rw [k0h_ne v (by decide)]; rfl
  | 2, _ => rw [k0h_ne v (by decide)]; rfl
  | 3, _ => rw [k0h_ne v (by decide)]; rfl
  | 4, _ => rw [k0h_ne v (by decide)]; rfl
  | 5, _ => rw [k0h_ne v (by decide)]; rfl
  | 6, _ => rw [k0h_ne v (by decide)]; rfl
  | 7, _ => rw [k0h_ne v (by decide)]; rfl
  | 8, _ => rw [k0h_ne v (by decide)]; rfl
  | 9, _ => rw [k0h_ne v (by decide)]; rfl
  | 10, _ => rw [k0h_ne v (by decide)]; rfl
  | 11, _ => rw [k0h_ne v (by decide)]; rfl
  | 12, _ => rw [k0h_ne v (by decide)]; rfl
  | 13, _ => rw [k0h_ne v (by decide)]; rfl
  | 14, _ => rw [k0h_ne v (by decide)]; rfl
  | k + 15, hk =>
    rw [k0h_ne v (by omega)]
    by_cases c : k < 40
    · rw [kcf_snap c, show kbp (k + 15) = 15 + 2 * k by unfold kbp; rw [if_neg (by omega), if_pos (by omega)]; omega, kbw_tail, (plf_at cI us.2.2.2 (fun k => us.2.2.2 (k + 40)) 40 k c).1]
      rfl
    · obtain ⟨k, rfl⟩ : ∃ z, k = z + 40 := ⟨k - 40, by omega⟩
      rw [show k + 40 + 15 = k + 55 from rfl, kcf_regs, show kbp (k + 55) = 15 + (2 * k + 1) by unfold kbp; rw [if_neg (by omega), if_neg (by omega)]; omega, kbw_tail, (plf_at cI us.2.2.2 (fun k => us.2.2.2 (k + 40)) 40 k (by omega)).2]
      rfl
def kbx (cI cS : ClassId) (v : Int32) (u : Nat → Nat) : va_W := xw 95 u (kcf cI cS u) (k0h v)

set_option maxHeartbeats 4000000 in
set_option maxRecDepth 100000 in
theorem c_X5_init (l : Launch) (dC : Nat → ClassId) (dI : Nat → Nat → Nat) (cI cS : ClassId) (h0 sz : Nat) (x1 : Int32) : Met l yX5_init wsX5_init ({ frames := 3, cells := 94, slots := 7556, locals := 60 }) (va_Pc [.ref h0, .int x1] (fun U => U.heap.size = sz ∧ va_P (dC, dI) vwCl [(h0, .inr (5, [.int 0, .null, .null, .null, .null, .int 0, .int 0, .int 0, .int 0]))] U.heap ∧ PKs dC dI cI cS U ∧ va_D (fun _ => True) [(h0, .inr (5, [.int 0, .null, .null, .null, .null, .int 0, .int 0, .int 0, .int 0]))])) (va_Qv (fun (u : Nat → Nat) => u 0 = h0) (fun u t => va_P (dC, dI) vwCl (kbx cI cS (mclamp x1) u) t.heap ∧ PKs dC dI cI cS t ∧ va_D (va_A [(h0, .inr (5, [.int 0, .null, .null, .null, .null, .int 0, .int 0, .int 0, .int 0]))] sz) (kbx cI cS (mclamp x1) u)) (va_A [(h0, .inr (5, [.int 0, .null, .null, .null, .null, .int 0, .int 0, .int 0, .int 0]))] sz)) 94 7556 (va_A [(h0, .inr (5, [.int 0, .null, .null, .null, .null, .int 0, .int 0, .int 0, .int 0]))] sz) := by
  refine Met.ofW (cc := cX5_init) (maxL := 2) (ret := none) (by decide) rfl ?_
  intro p e s m args below meth c s₁ B hml hv
  obtain ⟨rfl, hsz, hP, ⟨hK, hAO⟩, hD0⟩ := hv
  have hx := B.exec
  have hb := B.bytes
  have hr := B.returns
  have hts := atoms_spec (ws := wsX5_init) B.pre
  have hown : s.vm.findClass RX5 = some m.cls := findClass_of_methodNamed B.named
  have hlocks := B.notSynchronized
  have hin : meth.name = "<init>" := (name_of_methodNamed B.named B.method).1
  subst hsz
  have hD := hD0.self (sz := s.heap.size)
  generalize hAe : va_A [(h0, .inr (5, [.int 0, .null, .null, .null, .null, .int 0, .int 0, .int 0, .int 0]))] s.heap.size = A at hD ⊢
  have hA : ∀ q : Nat, s.heap.size ≤ q → A q := fun q h => by rw [← hAe]; exact Or.inr h
  have hS : va_S A s.heap s.heap [] := va_S.rf
  have hP : va_P (dC, dI) vwCl [(h0, .inr (5, [.int 0, .null, .null, .null, .null, .int 0, .int 0, .int 0, .int 0]))] s.heap := hP
  have hl := lv_entry ([.ref h0, .int x1]) (n := 2) (Nat.le_of_ble_eq_true rfl)
  rw [lg_entry_eq]
  generalize (lg_sl ([.ref h0, .int x1]) ++ List.replicate (2 - (lg_sl ([.ref h0, .int x1])).length) Slot.unset).toArray = ls at hl ⊢
  have hl : lv_has ls 2 [(0, .ref h0), (1, .int x1)] := hl
  refine lv_aload_n hx hb dX5_init_0 rfl (lv_at hl 0 rfl) ?_
  refine W.objInit hx hb hown (hts (.methodLink RX5 3 objectInit) (by decide +kernel)) (hts (.instanceMethod objectInit) (by decide +kernel)) (hts (.code objectInit ⟨#[0xb1]⟩ 1 none) (by decide +kernel)) rfl (by rw [hml]; exact hl.1) rfl dX5_init_1 (Nat.le_of_ble_eq_true rfl) (Nat.le_of_ble_eq_true rfl) ?_
  refine W.eq (g2 := F0 m 4 ls []) rfl ?_
  refine lv_aload_n hx hb dX5_init_4 rfl (lv_at hl 0 rfl) ?_
  refine lv_iconst (v := 2) hx hb dX5_init_5 (by decide) ?_
  refine lv_iload_n hx hb dX5_init_6 rfl (lv_at hl 1 rfl) ?_
  refine lv_bipush (v := 64) hx hb dX5_init_7 (by decide) ?_
  refine va_mmin hx hb (by rw [hml]; exact hl.1.symm) hown (hts (.methodLink RX5 9 Lib.Math.min.name) (by decide +kernel)) (hts (.static Lib.Math.min.name) (by decide +kernel)) (hts (.initialized "java/lang/Math") (by decide +kernel)) (hts (.code Lib.Math.min.name Lib.Math.min.code 2 (some .int)) (by decide +kernel)) (Nat.le_of_ble_eq_true rfl) (Nat.le_of_ble_eq_true rfl) (Nat.le_of_ble_eq_true rfl) (Nat.le_of_ble_eq_true rfl) dX5_init_9 ?_
  refine va_mmax hx hb (by rw [hml]; exact hl.1.symm) hown (hts (.methodLink RX5 15 Lib.Math.max.name) (by decide +kernel)) (hts (.static Lib.Math.max.name) (by decide +kernel)) (hts (.initialized "java/lang/Math") (by decide +kernel)) (hts (.code Lib.Math.max.name Lib.Math.max.code 2 (some .int)) (by decide +kernel)) (Nat.le_of_ble_eq_true rfl) (Nat.le_of_ble_eq_true rfl) (Nat.le_of_ble_eq_true rfl) (Nat.le_of_ble_eq_true rfl) dX5_init_12 ?_
  rw [mclamp_mm x1]
  refine va_putF (D := (dC, dI)) (ci := 5) (v := .int (mclamp x1)) (ty := .int) (C := RX5) (T := TX5) (N := 9) hx hb hts (by decide +kernel) tyX5 tyX5_ok nmX5 hown hK hP hD hS 0 rfl rfl 0 (by decide) (hts (.fieldLink RX5 18 "RewindBox" "interval" "I") (by decide +kernel)) (fun _ h9 => h9) rfl hin rfl (by decide +kernel) rfl rfl (Nat.le_of_ble_eq_true rfl) dX5_init_15 (fun H locs hP hD hS => ?_)
  have hP : va_P (dC, dI) vwCl ([(h0, .inr (5, [.int (mclamp x1), .null, .null, .null, .null, .int 0, .int 0, .int 0, .int 0]))]) H := hP
  have hD : va_D A ([(h0, .inr (5, [.int (mclamp x1), .null, .null, .null, .null, .int 0, .int 0, .int 0, .int 0]))]) := hD
  refine lv_aload_n hx hb dX5_init_18 rfl (lv_at hl 0 rfl) ?_
  refine va_new (ci := 2) (fs := [.null, .null, .null, .int 0, .int 0, .int 0, .int 0, .int 0]) (C := RX2) (T := TX2) (N := 8) hx hb hts (by decide +kernel) tyX2 tyX2_ok hown (hts (.classLink RX5 22 RX2) (by decide +kernel)) (hts (.instantiable RX2 8) (by decide +kernel)) (hts (.initialized RX2) (by decide +kernel)) hK hP hD hS hA rfl (fun j hj => by rcases (show j = 0 ∨ j = 1 ∨ j = 2 ∨ j = 3 ∨ j = 4 ∨ j = 5 ∨ j = 6 ∨ j = 7 by omega) with rfl | rfl | rfl | rfl | rfl | rfl | rfl | rfl <;> rfl) (Nat.le_of_ble_eq_true rfl) (Nat.le_of_ble_eq_true rfl) dX5_init_19 (fun qm H hP hD hS => ?_)
  refine lv_dup hx hb dX5_init_22 rfl ?_
  refine W.widen (k := 1) (n := 8) (by decide) (by decide) ?_
  refine cv_init (As := []) (rest := [.ref qm, .ref h0]) ⟨hx, hb, hml, hown, hts⟩ (c_X2_init l dC dI cI cS qm H.size) (cwI 0 hts gX5_init_X2_init rfl rfl rfl (hts (.initialized RX2) (by decide +kernel)) (hts (.methodLink RX5 24 yX2_init) (by decide +kernel)) (hts (.instanceMethod yX2_init) (by decide +kernel)) rfl (by decide +kernel) ⟨Nat.le_of_ble_eq_true rfl, Nat.le_of_ble_eq_true rfl⟩) (fun U hW => va_K.moved hW.alike hK) (fun U V hv h9 => va_K.moved (by rw [hv]; exact Vm.Alike.refl _) h9) hP hD hS hA rfl hl.1 rfl (Nat.le_of_ble_eq_true rfl) dX5_init_23 ⟨Nat.le_of_ble_eq_true rfl, Nat.le_of_ble_eq_true rfl⟩ (fun um H locs _ hP hD hS => ?_)
  refine W.widen (k := 4) (n := 592) (by decide) (by decide) ?_
  have hP : va_P (dC, dI) vwCl ([(h0, .inr (5, [.int (mclamp x1), .null, .null, .null, .null, .int 0, .int 0, .int 0, .int 0])), (qm, .inr (2, [.ref um.1, .ref um.2.1, .ref um.2.2, .int 0, .int 0, .int 0, .int 0, .int 0])), (um.1, .inl (cI, 8, .inl (fun _ => 0))), (um.2.1, .inl (cI, 512, .inl (fun _ => 0))), (um.2.2, .inl (cI, 64, .inl (fun _ => 0)))]) H := hP
  have hD : va_D A ([(h0, .inr (5, [.int (mclamp x1), .null, .null, .null, .null, .int 0, .int 0, .int 0, .int 0])), (qm, .inr (2, [.ref um.1, .ref um.2.1, .ref um.2.2, .int 0, .int 0, .int 0, .int 0, .int 0])), (um.1, .inl (cI, 8, .inl (fun _ => 0))), (um.2.1, .inl (cI, 512, .inl (fun _ => 0))), (um.2.2, .inl (cI, 64, .inl (fun _ => 0)))]) := hD
  refine va_putF (D := (dC, dI)) (ci := 5) (v := .ref qm) (ty := .object "RewindBox$Machine") (C := RX5) (T := TX5) (N := 9) hx hb hts (by decide +kernel) tyX5 tyX5_ok nmX5 hown hK hP hD hS 0 rfl rfl 1 (by decide) (hts (.fieldLink RX5 25 "RewindBox" "machine" "LRewindBox$Machine;") (by decide +kernel)) (fun _ h9 => h9) rfl hin rfl (by decide +kernel) rfl rfl (Nat.le_of_ble_eq_true rfl) dX5_init_26 (fun H locs hP hD hS => ?_)
  have hP : va_P (dC, dI) vwCl ([(h0, .inr (5, [.int (mclamp x1), .ref qm, .null, .null, .null, .int 0, .int 0, .int 0, .int 0])), (qm, .inr (2, [.ref um.1, .ref um.2.1, .ref um.2.2, .int 0, .int 0, .int 0, .int 0, .int 0])), (um.1, .inl (cI, 8, .inl (fun _ => 0))), (um.2.1, .inl (cI, 512, .inl (fun _ => 0))), (um.2.2, .inl (cI, 64, .inl (fun _ => 0)))]) H := hP
  have hD : va_D A ([(h0, .inr (5, [.int (mclamp x1), .ref qm, .null, .null, .null, .int 0, .int 0, .int 0, .int 0])), (qm, .inr (2, [.ref um.1, .ref um.2.1, .ref um.2.2, .int 0, .int 0, .int 0, .int 0, .int 0])), (um.1, .inl (cI, 8, .inl (fun _ => 0))), (um.2.1, .inl (cI, 512, .inl (fun _ => 0))), (um.2.2, .inl (cI, 64, .inl (fun _ => 0)))]) := hD
  refine lv_aload_n hx hb dX5_init_29 rfl (lv_at hl 0 rfl) ?_
  refine va_new (ci := 0) (fs := [.null, .int 0, .int 0]) (C := RX0) (T := TX0) (N := 3) hx hb hts (by decide +kernel) tyX0 tyX0_ok hown (hts (.classLink RX5 29 RX0) (by decide +kernel)) (hts (.instantiable RX0 3) (by decide +kernel)) (hts (.initialized RX0) (by decide +kernel)) hK hP hD hS hA rfl (fun j hj => by rcases (show j = 0 ∨ j = 1 ∨ j = 2 by omega) with rfl | rfl | rfl <;> rfl) (Nat.le_of_ble_eq_true rfl) (Nat.le_of_ble_eq_true rfl) dX5_init_30 (fun qi H hP hD hS => ?_)
  refine lv_dup hx hb dX5_init_33 rfl ?_
  refine W.widen (k := 5) (n := 595) (by decide) (by decide) ?_
  refine cv_init (As := []) (rest := [.ref qi, .ref h0]) ⟨hx, hb, hml, hown, hts⟩ (c_X0_init l dC dI cI cS qi H.size) (cwI 0 hts gX5_init_X0_init rfl rfl rfl (hts (.initialized RX0) (by decide +kernel)) (hts (.methodLink RX5 31 yX0_init) (by decide +kernel)) (hts (.instanceMethod yX0_init) (by decide +kernel)) rfl (by decide +kernel) ⟨Nat.le_of_ble_eq_true rfl, Nat.le_of_ble_eq_true rfl⟩) (fun U hW => va_K.moved hW.alike hK) (fun U V hv h9 => va_K.moved (by rw [hv]; exact Vm.Alike.refl _) h9) hP hD hS hA rfl hl.1 rfl (Nat.le_of_ble_eq_true rfl) dX5_init_34 ⟨Nat.le_of_ble_eq_true rfl, Nat.le_of_ble_eq_true rfl⟩ (fun ui H locs _ hP hD hS => ?_)
  refine W.widen (k := 6) (n := 695) (by decide) (by decide) ?_
  have hP : va_P (dC, dI) vwCl ([(h0, .inr (5, [.int (mclamp x1), .ref qm, .null, .null, .null, .int 0, .int 0, .int 0, .int 0])), (qm, .inr (2, [.ref um.1, .ref um.2.1, .ref um.2.2, .int 0, .int 0, .int 0, .int 0, .int 0])), (um.1, .inl (cI, 8, .inl (fun _ => 0))), (um.2.1, .inl (cI, 512, .inl (fun _ => 0))), (um.2.2, .inl (cI, 64, .inl (fun _ => 0))), (qi, .inr (0, [.ref ui, .int 0, .int 0])), (ui, .inl (cI, 100, .inl (fun _ => 0)))]) H := hP
  have hD : va_D A ([(h0, .inr (5, [.int (mclamp x1), .ref qm, .null, .null, .null, .int 0, .int 0, .int 0, .int 0])), (qm, .inr (2, [.ref um.1, .ref um.2.1, .ref um.2.2, .int 0, .int 0, .int 0, .int 0, .int 0])), (um.1, .inl (cI, 8, .inl (fun _ => 0))), (um.2.1, .inl (cI, 512, .inl (fun _ => 0))), (um.2.2, .inl (cI, 64, .inl (fun _ => 0))), (qi, .inr (0, [.ref ui, .int 0, .int 0])), (ui, .inl (cI, 100, .inl (fun _ => 0)))]) := hD
  refine va_putF (D := (dC, dI)) (ci := 5) (v := .ref qi) (ty := .object "RewindBox$Inputs") (C := RX5) (T := TX5) (N := 9) hx hb hts (by decide +kernel) tyX5 tyX5_ok nmX5 hown hK hP hD hS 0 rfl rfl 2 (by decide) (hts (.fieldLink RX5 32 "RewindBox" "inputs" "LRewindBox$Inputs;") (by decide +kernel)) (fun _ h9 => h9) rfl hin rfl (by decide +kernel) rfl rfl (Nat.le_of_ble_eq_true rfl) dX5_init_37 (fun H locs hP hD hS => ?_)
  have hP : va_P (dC, dI) vwCl ([(h0, .inr (5, [.int (mclamp x1), .ref qm, .ref qi, .null, .null, .int 0, .int 0, .int 0, .int 0])), (qm, .inr (2, [.ref um.1, .ref um.2.1, .ref um.2.2, .int 0, .int 0, .int 0, .int 0, .int 0])), (um.1, .inl (cI, 8, .inl (fun _ => 0))), (um.2.1, .inl (cI, 512, .inl (fun _ => 0))), (um.2.2, .inl (cI, 64, .inl (fun _ => 0))), (qi, .inr (0, [.ref ui, .int 0, .int 0])), (ui, .inl (cI, 100, .inl (fun _ => 0)))]) H := hP
  have hD : va_D A ([(h0, .inr (5, [.int (mclamp x1), .ref qm, .ref qi, .null, .null, .int 0, .int 0, .int 0, .int 0])), (qm, .inr (2, [.ref um.1, .ref um.2.1, .ref um.2.2, .int 0, .int 0, .int 0, .int 0, .int 0])), (um.1, .inl (cI, 8, .inl (fun _ => 0))), (um.2.1, .inl (cI, 512, .inl (fun _ => 0))), (um.2.2, .inl (cI, 64, .inl (fun _ => 0))), (qi, .inr (0, [.ref ui, .int 0, .int 0])), (ui, .inl (cI, 100, .inl (fun _ => 0)))]) := hD
  refine lv_aload_n hx hb dX5_init_40 rfl (lv_at hl 0 rfl) ?_
  refine va_new (ci := 1) (fs := [.null, .null, .null, .int 0]) (C := RX1) (T := TX1) (N := 4) hx hb hts (by decide +kernel) tyX1 tyX1_ok hown (hts (.classLink RX5 36 RX1) (by decide +kernel)) (hts (.instantiable RX1 4) (by decide +kernel)) (hts (.initialized RX1) (by decide +kernel)) hK hP hD hS hA rfl (fun j hj => by rcases (show j = 0 ∨ j = 1 ∨ j = 2 ∨ j = 3 by omega) with rfl | rfl | rfl | rfl <;> rfl) (Nat.le_of_ble_eq_true rfl) (Nat.le_of_ble_eq_true rfl) dX5_init_41 (fun ql H hP hD hS => ?_)
  refine lv_dup hx hb dX5_init_44 rfl ?_
  refine W.widen (k := 7) (n := 699) (by decide) (by decide) ?_
  refine cv_init (As := []) (rest := [.ref ql, .ref h0]) ⟨hx, hb, hml, hown, hts⟩ (c_X1_init l dC dI cI cS ql H.size) (cwI 0 hts gX5_init_X1_init rfl rfl rfl (hts (.initialized RX1) (by decide +kernel)) (hts (.methodLink RX5 38 yX1_init) (by decide +kernel)) (hts (.instanceMethod yX1_init) (by decide +kernel)) rfl (by decide +kernel) ⟨Nat.le_of_ble_eq_true rfl, Nat.le_of_ble_eq_true rfl⟩) (fun U hW => va_K.moved hW.alike hK) (fun U V hv h9 => va_K.moved (by rw [hv]; exact Vm.Alike.refl _) h9) hP hD hS hA rfl hl.1 rfl (Nat.le_of_ble_eq_true rfl) dX5_init_45 ⟨Nat.le_of_ble_eq_true rfl, Nat.le_of_ble_eq_true rfl⟩ (fun ul H locs _ hP hD hS => ?_)
  refine W.widen (k := 10) (n := 1599) (by decide) (by decide) ?_
  have hP : va_P (dC, dI) vwCl ([(h0, .inr (5, [.int (mclamp x1), .ref qm, .ref qi, .null, .null, .int 0, .int 0, .int 0, .int 0])), (qm, .inr (2, [.ref um.1, .ref um.2.1, .ref um.2.2, .int 0, .int 0, .int 0, .int 0, .int 0])), (um.1, .inl (cI, 8, .inl (fun _ => 0))), (um.2.1, .inl (cI, 512, .inl (fun _ => 0))), (um.2.2, .inl (cI, 64, .inl (fun _ => 0))), (qi, .inr (0, [.ref ui, .int 0, .int 0])), (ui, .inl (cI, 100, .inl (fun _ => 0))), (ql, .inr (1, [.ref ul.1, .ref ul.2.1, .ref ul.2.2, .int 0])), (ul.1, .inl (cI, 300, .inl (fun _ => 0))), (ul.2.1, .inl (cI, 300, .inl (fun _ => 0))), (ul.2.2, .inl (cI, 300, .inl (fun _ => 0)))]) H := hP
  have hD : va_D A ([(h0, .inr (5, [.int (mclamp x1), .ref qm, .ref qi, .null, .null, .int 0, .int 0, .int 0, .int 0])), (qm, .inr (2, [.ref um.1, .ref um.2.1, .ref um.2.2, .int 0, .int 0, .int 0, .int 0, .int 0])), (um.1, .inl (cI, 8, .inl (fun _ => 0))), (um.2.1, .inl (cI, 512, .inl (fun _ => 0))), (um.2.2, .inl (cI, 64, .inl (fun _ => 0))), (qi, .inr (0, [.ref ui, .int 0, .int 0])), (ui, .inl (cI, 100, .inl (fun _ => 0))), (ql, .inr (1, [.ref ul.1, .ref ul.2.1, .ref ul.2.2, .int 0])), (ul.1, .inl (cI, 300, .inl (fun _ => 0))), (ul.2.1, .inl (cI, 300, .inl (fun _ => 0))), (ul.2.2, .inl (cI, 300, .inl (fun _ => 0)))]) := hD
  refine va_putF (D := (dC, dI)) (ci := 5) (v := .ref ql) (ty := .object "RewindBox$Log") (C := RX5) (T := TX5) (N := 9) hx hb hts (by decide +kernel) tyX5 tyX5_ok nmX5 hown hK hP hD hS 0 rfl rfl 3 (by decide) (hts (.fieldLink RX5 39 "RewindBox" "entries" "LRewindBox$Log;") (by decide +kernel)) (fun _ h9 => h9) rfl hin rfl (by decide +kernel) rfl rfl (Nat.le_of_ble_eq_true rfl) dX5_init_48 (fun H locs hP hD hS => ?_)
  have hP : va_P (dC, dI) vwCl ([(h0, .inr (5, [.int (mclamp x1), .ref qm, .ref qi, .ref ql, .null, .int 0, .int 0, .int 0, .int 0])), (qm, .inr (2, [.ref um.1, .ref um.2.1, .ref um.2.2, .int 0, .int 0, .int 0, .int 0, .int 0])), (um.1, .inl (cI, 8, .inl (fun _ => 0))), (um.2.1, .inl (cI, 512, .inl (fun _ => 0))), (um.2.2, .inl (cI, 64, .inl (fun _ => 0))), (qi, .inr (0, [.ref ui, .int 0, .int 0])), (ui, .inl (cI, 100, .inl (fun _ => 0))), (ql, .inr (1, [.ref ul.1, .ref ul.2.1, .ref ul.2.2, .int 0])), (ul.1, .inl (cI, 300, .inl (fun _ => 0))), (ul.2.1, .inl (cI, 300, .inl (fun _ => 0))), (ul.2.2, .inl (cI, 300, .inl (fun _ => 0)))]) H := hP
  have hD : va_D A ([(h0, .inr (5, [.int (mclamp x1), .ref qm, .ref qi, .ref ql, .null, .int 0, .int 0, .int 0, .int 0])), (qm, .inr (2, [.ref um.1, .ref um.2.1, .ref um.2.2, .int 0, .int 0, .int 0, .int 0, .int 0])), (um.1, .inl (cI, 8, .inl (fun _ => 0))), (um.2.1, .inl (cI, 512, .inl (fun _ => 0))), (um.2.2, .inl (cI, 64, .inl (fun _ => 0))), (qi, .inr (0, [.ref ui, .int 0, .int 0])), (ui, .inl (cI, 100, .inl (fun _ => 0))), (ql, .inr (1, [.ref ul.1, .ref ul.2.1, .ref ul.2.2, .int 0])), (ul.1, .inl (cI, 300, .inl (fun _ => 0))), (ul.2.1, .inl (cI, 300, .inl (fun _ => 0))), (ul.2.2, .inl (cI, 300, .inl (fun _ => 0)))]) := hD
  refine lv_aload_n hx hb dX5_init_51 rfl (lv_at hl 0 rfl) ?_
  refine va_new (ci := 4) (fs := [.null, .null, .null, .int 0, .int 0]) (C := RX4) (T := TX4) (N := 5) hx hb hts (by decide +kernel) tyX4 tyX4_ok hown (hts (.classLink RX5 43 RX4) (by decide +kernel)) (hts (.instantiable RX4 5) (by decide +kernel)) (hts (.initialized RX4) (by decide +kernel)) hK hP hD hS hA rfl (fun j hj => by rcases (show j = 0 ∨ j = 1 ∨ j = 2 ∨ j = 3 ∨ j = 4 by omega) with rfl | rfl | rfl | rfl | rfl <;> rfl) (Nat.le_of_ble_eq_true rfl) (Nat.le_of_ble_eq_true rfl) dX5_init_52 (fun qs H hP hD hS => ?_)
  refine lv_dup hx hb dX5_init_55 rfl ?_
  refine W.widen (k := 11) (n := 1604) (by decide) (by decide) ?_
  refine cv_init (As := []) (rest := [.ref qs, .ref h0]) ⟨hx, hb, hml, hown, hts⟩ (c_X4_init l dC dI cI cS qs H.size) (cwI 0 hts gX5_init_X4_init rfl rfl rfl (hts (.initialized RX4) (by decide +kernel)) (hts (.methodLink RX5 45 yX4_init) (by decide +kernel)) (hts (.instanceMethod yX4_init) (by decide +kernel)) rfl (by decide +kernel) ⟨Nat.le_of_ble_eq_true rfl, Nat.le_of_ble_eq_true rfl⟩) (fun U hW => ⟨va_K.moved hW.alike hK, va_AO.moved hW.alike hAO⟩) (fun U V hv h9 => ⟨va_K.moved (by rw [hv]; exact Vm.Alike.refl _) h9.1, va_AO.moved (by rw [hv]; exact Vm.Alike.refl _) h9.2⟩) hP hD hS hA rfl hl.1 rfl (Nat.le_of_ble_eq_true rfl) dX5_init_56 ⟨Nat.le_of_ble_eq_true rfl, Nat.le_of_ble_eq_true rfl⟩ (fun us H locs _ hP hD hS => ?_)
  refine W.widen (k := 94) (n := 7556) (by decide) (by decide) ?_
  have hP : va_P (dC, dI) vwCl ((h0, .inr (5, [.int (mclamp x1), .ref qm, .ref qi, .ref ql, .null, .int 0, .int 0, .int 0, .int 0])) :: (qm, .inr (2, [.ref um.1, .ref um.2.1, .ref um.2.2, .int 0, .int 0, .int 0, .int 0, .int 0])) :: (um.1, .inl (cI, 8, .inl (fun _ => 0))) :: (um.2.1, .inl (cI, 512, .inl (fun _ => 0))) :: (um.2.2, .inl (cI, 64, .inl (fun _ => 0))) :: (qi, .inr (0, [.ref ui, .int 0, .int 0])) :: (ui, .inl (cI, 100, .inl (fun _ => 0))) :: (ql, .inr (1, [.ref ul.1, .ref ul.2.1, .ref ul.2.2, .int 0])) :: (ul.1, .inl (cI, 300, .inl (fun _ => 0))) :: (ul.2.1, .inl (cI, 300, .inl (fun _ => 0))) :: (ul.2.2, .inl (cI, 300, .inl (fun _ => 0))) :: snw cI cS qs us) H := hP
  have hD : va_D A ((h0, .inr (5, [.int (mclamp x1), .ref qm, .ref qi, .ref ql, .null, .int 0, .int 0, .int 0, .int 0])) :: (qm, .inr (2, [.ref um.1, .ref um.2.1, .ref um.2.2, .int 0, .int 0, .int 0, .int 0, .int 0])) :: (um.1, .inl (cI, 8, .inl (fun _ => 0))) :: (um.2.1, .inl (cI, 512, .inl (fun _ => 0))) :: (um.2.2, .inl (cI, 64, .inl (fun _ => 0))) :: (qi, .inr (0, [.ref ui, .int 0, .int 0])) :: (ui, .inl (cI, 100, .inl (fun _ => 0))) :: (ql, .inr (1, [.ref ul.1, .ref ul.2.1, .ref ul.2.2, .int 0])) :: (ul.1, .inl (cI, 300, .inl (fun _ => 0))) :: (ul.2.1, .inl (cI, 300, .inl (fun _ => 0))) :: (ul.2.2, .inl (cI, 300, .inl (fun _ => 0))) :: snw cI cS qs us) := hD
  refine va_putF (D := (dC, dI)) (ci := 5) (v := .ref qs) (ty := .object "RewindBox$Snapshots") (C := RX5) (T := TX5) (N := 9) hx hb hts (by decide +kernel) tyX5 tyX5_ok nmX5 hown hK hP hD hS 0 rfl rfl 4 (by decide) (hts (.fieldLink RX5 46 "RewindBox" "snapshots" "LRewindBox$Snapshots;") (by decide +kernel)) (fun _ h9 => h9) rfl hin rfl (by decide +kernel) rfl rfl (Nat.le_of_ble_eq_true rfl) dX5_init_59 (fun H locs hP hD hS => ?_)
  have hP : va_P (dC, dI) vwCl ((h0, .inr (5, [.int (mclamp x1), .ref qm, .ref qi, .ref ql, .ref qs, .int 0, .int 0, .int 0, .int 0])) :: (qm, .inr (2, [.ref um.1, .ref um.2.1, .ref um.2.2, .int 0, .int 0, .int 0, .int 0, .int 0])) :: (um.1, .inl (cI, 8, .inl (fun _ => 0))) :: (um.2.1, .inl (cI, 512, .inl (fun _ => 0))) :: (um.2.2, .inl (cI, 64, .inl (fun _ => 0))) :: (qi, .inr (0, [.ref ui, .int 0, .int 0])) :: (ui, .inl (cI, 100, .inl (fun _ => 0))) :: (ql, .inr (1, [.ref ul.1, .ref ul.2.1, .ref ul.2.2, .int 0])) :: (ul.1, .inl (cI, 300, .inl (fun _ => 0))) :: (ul.2.1, .inl (cI, 300, .inl (fun _ => 0))) :: (ul.2.2, .inl (cI, 300, .inl (fun _ => 0))) :: snw cI cS qs us) H := hP
  have hD : va_D A ((h0, .inr (5, [.int (mclamp x1), .ref qm, .ref qi, .ref ql, .ref qs, .int 0, .int 0, .int 0, .int 0])) :: (qm, .inr (2, [.ref um.1, .ref um.2.1, .ref um.2.2, .int 0, .int 0, .int 0, .int 0, .int 0])) :: (um.1, .inl (cI, 8, .inl (fun _ => 0))) :: (um.2.1, .inl (cI, 512, .inl (fun _ => 0))) :: (um.2.2, .inl (cI, 64, .inl (fun _ => 0))) :: (qi, .inr (0, [.ref ui, .int 0, .int 0])) :: (ui, .inl (cI, 100, .inl (fun _ => 0))) :: (ql, .inr (1, [.ref ul.1, .ref ul.2.1, .ref ul.2.2, .int 0])) :: (ul.1, .inl (cI, 300, .inl (fun _ => 0))) :: (ul.2.1, .inl (cI, 300, .inl (fun _ => 0))) :: (ul.2.2, .inl (cI, 300, .inl (fun _ => 0))) :: snw cI cS qs us) := hD
  have hP : va_P (dC, dI) vwCl (kbw cI cS h0 (mclamp x1) qm um qi ui ql ul qs us) H := hP
  have hD : va_D A (kbw cI cS h0 (mclamp x1) qm um qi ui ql ul qs us) := hD
  have hP : va_P (dC, dI) vwCl (kbx cI cS (mclamp x1) (kba h0 qm um qi ui ql ul qs us)) H := xp_P kbp (kbw_at cI cS h0 (mclamp x1) qm um qi ui ql ul qs us) hP
  have hD : va_D A (kbx cI cS (mclamp x1) (kba h0 qm um qi ui ql ul qs us)) := xp_D kbp kbp_inj (kbw_at cI cS h0 (mclamp x1) qm um qi ui ql ul qs us) hD
  exact W.vret hx hb hr (fun t ht hW => ⟨⟨kba h0 qm um qi ui ql ul qs us, rfl, rfl, by subst ht; exact hP, ⟨va_K.moved hW.alike hK, va_AO.moved hW.alike hAO⟩, hD⟩, hS.F ht⟩) hS.2.2 dX5_init_62
end CV
