/-! CONSTRUCTORS, 3: the snapshots -/
section CV
def PKs (dC : Nat → ClassId) (dI : Nat → Nat → Nat) (cI cS : ClassId) (U : State) : Prop := va_K (dC, dI) vwCl [(cI, .int), (cS, .object "RewindBox$Snapshot")] U ∧ va_AO "RewindBox$Snapshot" U
def snw (cI cS : ClassId) (h0 : Nat) (u : Nat × Nat × Nat × (Nat → Nat)) : va_W := (h0, .inr (4, [.ref u.1, .ref u.2.1, .ref u.2.2.1, .int 0, .int 0])) :: (u.1, .inl (cI, 512, .inl (fun _ => 0))) :: (u.2.1, .inl (cI, 4800, .inl (fun _ => 0))) :: (u.2.2.1, .inl (cS, 40, .inr (.inr (.inr (.inr (fun k => some (u.2.2.2 k))))))) :: plf cI u.2.2.2 (fun k => u.2.2.2 (k + 40)) 40
def plb (b r : Nat → Nat) (k : Nat) : Nat := if k < 40 then b k else r (k - 40)
theorem plb_lo (b r : Nat → Nat) {k : Nat} (h : k < 40) : plb b r k = b k := if_pos h
theorem plb_hi (b r : Nat → Nat) (k : Nat) : plb b r (k + 40) = r k := by
  unfold plb
  rw [if_neg (by omega), show k + 40 - 40 = k by omega]
theorem qsw_P {D : va_G} {cl : List vw_C} {x0 x1 x2 : Nat × va_E} {X : va_W} {q N : Nat} {cS : ClassId} {f : Nat → Option Nat} {b : Nat → Nat} {H : Heap} (h : ∀ i, i < N → f i = some (b i)) (hP : va_P D cl (x0 :: x1 :: x2 :: (q, .inl (cS, N, .inr (.inr (.inr (.inr f))))) :: X) H) : va_P D cl (x0 :: x1 :: x2 :: (q, .inl (cS, N, .inr (.inr (.inr (.inr (fun k => some (b k))))))) :: X) H := by
  intro k y hk
  match k, hk with
  | 0, hk => exact hP 0 y hk
  | 1, hk => exact hP 1 y hk
  | 2, hk => exact hP 2 y hk
  | k + 4, hk => exact hP (k + 4) y hk
  | 3, hk =>
    have e : y = (q, .inl (cS, N, .inr (.inr (.inr (.inr (fun k => some (b k))))))) := (Option.some.inj hk).symm
    subst e
    have z : H[q]? = some (vp_cell cS (N, .inr (.inr (.inr (.inr f))))) := hP 3 (q, .inl (cS, N, .inr (.inr (.inr (.inr f))))) rfl
    show H[q]? = some (vp_cell cS (N, .inr (.inr (.inr (.inr (fun k => some (b k)))))))
    rw [vp_cell_q] at z ⊢
    rw [z]
    exact congrArg some (arrV_eq cS (fun j hj => by rw [h j hj]))
theorem qsw_D {A : Nat → Prop} {x0 x1 x2 : Nat × va_E} {X : va_W} {q N : Nat} {cS : ClassId} {f g : Nat → Option Nat} (hD : va_D A (x0 :: x1 :: x2 :: (q, .inl (cS, N, .inr (.inr (.inr (.inr f))))) :: X)) : va_D A (x0 :: x1 :: x2 :: (q, .inl (cS, N, .inr (.inr (.inr (.inr g))))) :: X) := by
  have hw : ∀ (k : Nat) (y : Nat × va_E), (x0 :: x1 :: x2 :: (q, .inl (cS, N, .inr (.inr (.inr (.inr g))))) :: X : va_W)[k]? = some y → ∃ x : Nat × va_E, (x0 :: x1 :: x2 :: (q, .inl (cS, N, .inr (.inr (.inr (.inr f))))) :: X : va_W)[k]? = some x ∧ x.1 = y.1 := by
    intro k y hk
    match k, hk with
    | 0, hk => exact ⟨y, hk, rfl⟩
    | 1, hk => exact ⟨y, hk, rfl⟩
    | 2, hk => exact ⟨y, hk, rfl⟩
    | k + 4, hk => exact ⟨y, hk, rfl⟩
    | 3, hk =>
      have e : y = (q, .inl (cS, N, .inr (.inr (.inr (.inr g))))) := (Option.some.inj hk).symm
      subst e
      exact ⟨(q, .inl (cS, N, .inr (.inr (.inr (.inr f))))), rfl, rfl⟩
  refine ⟨fun i j x y hx hy hxy => ?_, fun i x hx => ?_⟩
  · obtain ⟨x', hx', ex⟩ := hw i x hx
    obtain ⟨y', hy', ey⟩ := hw j y hy
    exact hD.1 i j x' y' hx' hy' (by rw [ex, ey]; exact hxy)
  · obtain ⟨x', hx', ex⟩ := hw i x hx
    rw [← ex]; exact hD.2 i x' hx'
theorem cv_newq {p : Program} {l : Launch} {e : Env} {R : Room} {s : State} {m : MethodId} {args : Array Value} {below : List Frame} {meth : Method} {c : Code} {H : Heap} {locs : List Loc} {cells slots : Nat} {Q : State → Prop} {cc : ByteArray} {pc : Nat} {ls : Array Slot} {rest : List Value} {D : va_G} {cl : List vw_C} {A : Nat → Prop} {tys : List (ClassId × FieldType)} {ws : va_W} {H0 : Heap}
    (hexec : p.tables.exec = Jvm.exec) (hb : c.code = cc) {own C : String} {index : Nat} (hown : s.vm.findClass own = some m.cls) (hclink : (Cond.classLink own index C).before args s = true) (hover : va_AO C s) (hK : va_K D cl tys s) (t0 : Nat) {cS : ClassId} (ht : tys[t0]? = some (cS, .object C)) (hP : va_P D cl ws H) (hD : va_D A ws) (hS : va_S A H0 H locs) (hA : ∀ q, H0.size ≤ q → A q)
    {n : Int32} (N' : Nat) (hn : ¬ n < 0) (hN : n.toNatClampNeg = N') (hbytes : N' * 4 ≤ 536870912) (hcells : cells + 1 ≤ R.cells) (hslots : slots + N' ≤ R.slots) (hdg : decode cc pc = .ok (.anewarray index, 3))
    (kk : ∀ (q : Nat) (H1 : Heap), va_P D cl (ws ++ [(q, .inl (cS, N', .inr (.inr (.inr (.inr (fun _ => none))))))]) H1 → va_D A (ws ++ [(q, .inl (cS, N', .inr (.inr (.inr (.inr (fun _ => none))))))]) → va_S A H0 H1 locs →
      W p l e R s m args below meth c H1 locs (cells + 1) (slots + N') Q (F0 m (pc + 3) ls (.ref q :: rest))) : W p l e R s m args below meth c H locs cells slots Q (F0 m pc ls (.int n :: rest)) := by
  refine va_newq hexec hb hown hclink hover hK hP hD hS hA hn hN hbytes hcells hslots hdg (fun q cA H1 hK1 hP1 hD1 hS1 => ?_)
  obtain ⟨-, -, -, -, -, h1⟩ := (hK1.2 tys.length (cA, .object C) (by simp)).2
  obtain ⟨-, -, -, -, -, h2⟩ := (hK.2 t0 (cS, .object C) ht).2
  have e9 : cA = cS := Option.some.inj (h1.symm.trans h2)
  subst e9
  exact kk q H1 hP1 hD1 hS1
set_option maxHeartbeats 4000000 in
set_option maxRecDepth 100000 in
theorem c_X4_init (l : Launch) (dC : Nat → ClassId) (dI : Nat → Nat → Nat) (cI cS : ClassId) (h0 sz : Nat) : Met l yX4_init wsX4_init ({ frames := 2, cells := 83, slots := 5952, locals := 32 }) (va_Pc [.ref h0] (fun U => U.heap.size = sz ∧ va_P (dC, dI) vwCl [(h0, .inr (4, [.null, .null, .null, .int 0, .int 0]))] U.heap ∧ PKs dC dI cI cS U ∧ va_D (fun _ => True) [(h0, .inr (4, [.null, .null, .null, .int 0, .int 0]))])) (va_Qv (fun (u : Nat × Nat × Nat × (Nat → Nat)) => True) (fun u t => va_P (dC, dI) vwCl (snw cI cS h0 u) t.heap ∧ PKs dC dI cI cS t ∧ va_D (va_A [(h0, .inr (4, [.null, .null, .null, .int 0, .int 0]))] sz) (snw cI cS h0 u)) (va_A [(h0, .inr (4, [.null, .null, .null, .int 0, .int 0]))] sz)) 83 5952 (va_A [(h0, .inr (4, [.null, .null, .null, .int 0, .int 0]))] sz) := by
  refine Met.ofW (cc := cX4_init) (maxL := 2) (ret := none) (by decide) rfl ?_
  intro p e s m args below meth c s₁ B hml hv
  obtain ⟨rfl, hsz, hP, ⟨hK, hAO⟩, hD0⟩ := hv
  have hx := B.exec
  have hb := B.bytes
  have hr := B.returns
  have hts := atoms_spec (ws := wsX4_init) B.pre
  have hown : s.vm.findClass RX4 = some m.cls := findClass_of_methodNamed B.named
  have hlocks := B.notSynchronized
  have hin : meth.name = "<init>" := (name_of_methodNamed B.named B.method).1
  subst hsz
  have hD := hD0.self (sz := s.heap.size)
  generalize hAe : va_A [(h0, .inr (4, [.null, .null, .null, .int 0, .int 0]))] s.heap.size = A at hD ⊢
  have hA : ∀ q : Nat, s.heap.size ≤ q → A q := fun q h => by rw [← hAe]; exact Or.inr h
  have hS : va_S A s.heap s.heap [] := va_S.rf
  have hP : va_P (dC, dI) vwCl [(h0, .inr (4, [.null, .null, .null, .int 0, .int 0]))] s.heap := hP
  have hl := lv_entry ([.ref h0]) (n := 2) (Nat.le_of_ble_eq_true rfl)
  rw [lg_entry_eq]
  generalize (lg_sl ([.ref h0]) ++ List.replicate (2 - (lg_sl ([.ref h0])).length) Slot.unset).toArray = ls at hl ⊢
  have hl : lv_has ls 2 [(0, .ref h0)] := hl
  refine lv_aload_n hx hb dX4_init_0 rfl (lv_at hl 0 rfl) ?_
  refine W.objInit hx hb hown (hts (.methodLink RX4 3 objectInit) (by decide +kernel)) (hts (.instanceMethod objectInit) (by decide +kernel)) (hts (.code objectInit ⟨#[0xb1]⟩ 1 none) (by decide +kernel)) rfl (by rw [hml]; exact hl.1) rfl dX4_init_1 (Nat.le_of_ble_eq_true rfl) (Nat.le_of_ble_eq_true rfl) ?_
  refine W.eq (g2 := F0 m 4 ls []) rfl ?_
  refine lv_aload_n hx hb dX4_init_4 rfl (lv_at hl 0 rfl) ?_
  refine lv_sipush (v := 512) hx hb dX4_init_5 (by decide +kernel) ?_
  refine cv_newi hx hb (hts (.arrayClass .int) (by decide +kernel)) hK 0 rfl hP hD hS hA 512 (by decide) (by decide) (by decide) (Nat.le_of_ble_eq_true rfl) (Nat.le_of_ble_eq_true rfl) dX4_init_8 (fun q1 H hP hD hS => ?_)
  refine W.widen (k := 1) (n := 512) (by decide) (by decide) ?_
  have hP : va_P (dC, dI) vwCl [(h0, .inr (4, [.null, .null, .null, .int 0, .int 0])), (q1, .inl (cI, 512, .inl (fun _ => 0)))] H := hP
  have hD : va_D A [(h0, .inr (4, [.null, .null, .null, .int 0, .int 0])), (q1, .inl (cI, 512, .inl (fun _ => 0)))] := hD
  refine va_putF (D := (dC, dI)) (ci := 4) (v := .ref q1) (ty := .array .int) (C := RX4) (T := TX4) (N := 5) hx hb hts (by decide +kernel) tyX4 tyX4_ok nmX4 hown hK hP hD hS 0 rfl rfl 0 (by decide) (hts (.fieldLink RX4 9 "RewindBox$Snapshots" "firstMemory" "[I") (by decide +kernel)) (fun _ h9 => h9) rfl hin rfl (by decide +kernel) rfl rfl (Nat.le_of_ble_eq_true rfl) dX4_init_10 (fun H locs hP hD hS => ?_)
  have hP : va_P (dC, dI) vwCl [(h0, .inr (4, [.ref q1, .null, .null, .int 0, .int 0])), (q1, .inl (cI, 512, .inl (fun _ => 0)))] H := hP
  have hD : va_D A [(h0, .inr (4, [.ref q1, .null, .null, .int 0, .int 0])), (q1, .inl (cI, 512, .inl (fun _ => 0)))] := hD
  refine lv_aload_n hx hb dX4_init_13 rfl (lv_at hl 0 rfl) ?_
  refine lv_sipush (v := 4800) hx hb dX4_init_14 (by decide +kernel) ?_
  refine cv_newi hx hb (hts (.arrayClass .int) (by decide +kernel)) hK 0 rfl hP hD hS hA 4800 (by decide) (by decide) (by decide) (Nat.le_of_ble_eq_true rfl) (Nat.le_of_ble_eq_true rfl) dX4_init_17 (fun q2 H hP hD hS => ?_)
  refine W.widen (k := 2) (n := 5312) (by decide) (by decide) ?_
  have hP : va_P (dC, dI) vwCl [(h0, .inr (4, [.ref q1, .null, .null, .int 0, .int 0])), (q1, .inl (cI, 512, .inl (fun _ => 0))), (q2, .inl (cI, 4800, .inl (fun _ => 0)))] H := hP
  have hD : va_D A [(h0, .inr (4, [.ref q1, .null, .null, .int 0, .int 0])), (q1, .inl (cI, 512, .inl (fun _ => 0))), (q2, .inl (cI, 4800, .inl (fun _ => 0)))] := hD
  refine va_putF (D := (dC, dI)) (ci := 4) (v := .ref q2) (ty := .array .int) (C := RX4) (T := TX4) (N := 5) hx hb hts (by decide +kernel) tyX4 tyX4_ok nmX4 hown hK hP hD hS 0 rfl rfl 1 (by decide) (hts (.fieldLink RX4 15 "RewindBox$Snapshots" "pageWords" "[I") (by decide +kernel)) (fun _ h9 => h9) rfl hin rfl (by decide +kernel) rfl rfl (Nat.le_of_ble_eq_true rfl) dX4_init_19 (fun H locs hP hD hS => ?_)
  have hP : va_P (dC, dI) vwCl [(h0, .inr (4, [.ref q1, .ref q2, .null, .int 0, .int 0])), (q1, .inl (cI, 512, .inl (fun _ => 0))), (q2, .inl (cI, 4800, .inl (fun _ => 0)))] H := hP
  have hD : va_D A [(h0, .inr (4, [.ref q1, .ref q2, .null, .int 0, .int 0])), (q1, .inl (cI, 512, .inl (fun _ => 0))), (q2, .inl (cI, 4800, .inl (fun _ => 0)))] := hD
  refine lv_aload_n hx hb dX4_init_22 rfl (lv_at hl 0 rfl) ?_
  refine lv_bipush (v := 40) hx hb dX4_init_23 (by decide +kernel) ?_
  refine cv_newq hx hb hown (hts (.classLink RX4 18 RX3) (by decide +kernel)) hAO hK 1 rfl hP hD hS hA 40 (by decide) (by decide) (by decide) (Nat.le_of_ble_eq_true rfl) (Nat.le_of_ble_eq_true rfl) dX4_init_25 (fun q3 H hP hD hS => ?_)
  refine W.widen (k := 3) (n := 5352) (by decide) (by decide) ?_
  have hP : va_P (dC, dI) vwCl [(h0, .inr (4, [.ref q1, .ref q2, .null, .int 0, .int 0])), (q1, .inl (cI, 512, .inl (fun _ => 0))), (q2, .inl (cI, 4800, .inl (fun _ => 0))), (q3, .inl (cS, 40, .inr (.inr (.inr (.inr (fun _ => none))))))] H := hP
  have hD : va_D A [(h0, .inr (4, [.ref q1, .ref q2, .null, .int 0, .int 0])), (q1, .inl (cI, 512, .inl (fun _ => 0))), (q2, .inl (cI, 4800, .inl (fun _ => 0))), (q3, .inl (cS, 40, .inr (.inr (.inr (.inr (fun _ => none))))))] := hD
  refine va_putF (D := (dC, dI)) (ci := 4) (v := .ref q3) (ty := .array (.object "RewindBox$Snapshot")) (C := RX4) (T := TX4) (N := 5) hx hb hts (by decide +kernel) tyX4 tyX4_ok nmX4 hown hK hP hD hS 0 rfl rfl 2 (by decide) (hts (.fieldLink RX4 20 "RewindBox$Snapshots" "row" "[LRewindBox$Snapshot;") (by decide +kernel)) (fun _ h9 => h9) rfl hin rfl (by decide +kernel) rfl rfl (Nat.le_of_ble_eq_true rfl) dX4_init_28 (fun H locs hP hD hS => ?_)
  have hP : va_P (dC, dI) vwCl [(h0, .inr (4, [.ref q1, .ref q2, .ref q3, .int 0, .int 0])), (q1, .inl (cI, 512, .inl (fun _ => 0))), (q2, .inl (cI, 4800, .inl (fun _ => 0))), (q3, .inl (cS, 40, .inr (.inr (.inr (.inr (fun _ => none))))))] H := hP
  have hD : va_D A [(h0, .inr (4, [.ref q1, .ref q2, .ref q3, .int 0, .int 0])), (q1, .inl (cI, 512, .inl (fun _ => 0))), (q2, .inl (cI, 4800, .inl (fun _ => 0))), (q3, .inl (cS, 40, .inr (.inr (.inr (.inr (fun _ => none))))))] := hD
  refine lv_iconst (v := 0) hx hb dX4_init_31 (by decide) ?_
  refine lv_istore_n (lv' := [(1, .int 0), (0, .ref h0)]) hx hb dX4_init_32 rfl hl (by decide) rfl (fun ls hl => ?_)
  have loop : ∀ (k j : Nat) (b r : Nat → Nat) (f : Nat → Option Nat) (H : Heap) (locs : List Loc) (ls : Array Slot), j + k = 40 → (∀ i, i < j → f i = some (b i)) → va_P (dC, dI) vwCl ((h0, .inr (4, [.ref q1, .ref q2, .ref q3, .int 0, .int 0])) :: (q1, .inl (cI, 512, .inl (fun _ => 0))) :: (q2, .inl (cI, 4800, .inl (fun _ => 0))) :: (q3, .inl (cS, 40, .inr (.inr (.inr (.inr (f)))))) :: plf cI b r j) H → va_D A ((h0, .inr (4, [.ref q1, .ref q2, .ref q3, .int 0, .int 0])) :: (q1, .inl (cI, 512, .inl (fun _ => 0))) :: (q2, .inl (cI, 4800, .inl (fun _ => 0))) :: (q3, .inl (cS, 40, .inr (.inr (.inr (.inr (f)))))) :: plf cI b r j) → va_S A s.heap H locs → lv_has ls 2 [(1, .int (nI j)), (0, .ref h0)] →
      W p l e (headSpec wsX4_init { frames := 2, cells := 83, slots := 5952, locals := 32 }).room s m ([Value.ref h0] : List Value).toArray below meth c H locs (3 + 2 * j) (5352 + 15 * j) (MQ below (va_Qv (fun (u : Nat × Nat × Nat × (Nat → Nat)) => True) (fun u t => va_P (dC, dI) vwCl (snw cI cS h0 u) t.heap ∧ PKs dC dI cI cS t ∧ va_D A (snw cI cS h0 u)) A) ([Value.ref h0] : List Value).toArray s 83 5952 A) (F0 m 33 ls []) := by
    intro k
    induction k with
    | zero =>
      intro j b r f H locs ls hj hf hP hD hS hl
      obtain rfl : j = 40 := by omega
      refine lv_iload_n hx hb dX4_init_33 rfl (lv_at hl 0 rfl) ?_
      refine lv_bipush (v := 40) hx hb dX4_init_34 (by decide +kernel) ?_
      refine lv_icmp_ge (tgt := 58) hx hb dX4_init_36 (by decide) (fun c1 => ?_) (fun c1 => absurd (show (40 : Int32) ≤ nI 40 by decide) c1)
      have eb : plf cI b r 40 = plf cI (plb b r) (fun k => plb b r (k + 40)) 40 := by
        unfold plf
        apply fm_congr
        intro k hk
        have hk4 : k < 40 := List.mem_range.mp hk
        simp only [plb_lo b r hk4, plb_hi b r k]
      rw [eb] at hP hD
      have hP9 : va_P (dC, dI) vwCl (snw cI cS h0 (q1, q2, q3, plb b r)) H := qsw_P (fun i hi => by rw [hf i hi]; exact congrArg some (plb_lo b r hi).symm) hP
      have hD9 : va_D A (snw cI cS h0 (q1, q2, q3, plb b r)) := qsw_D hD
      exact W.vret hx hb hr (fun t ht hW => ⟨⟨(q1, q2, q3, plb b r), rfl, trivial, by subst ht; exact hP9, ⟨va_K.moved hW.alike hK, va_AO.moved hW.alike hAO⟩, hD9⟩, hS.F ht⟩) hS.2.2 dX4_init_58
    | succ k ih =>
      intro j b r f H locs ls hj hf hP hD hS hl
      refine lv_iload_n hx hb dX4_init_33 rfl (lv_at hl 0 rfl) ?_
      refine lv_bipush (v := 40) hx hb dX4_init_34 (by decide +kernel) ?_
      refine lv_icmp_ge (tgt := 58) hx hb dX4_init_36 (by decide) (fun c1 => absurd c1 (nI_ge (b := 40) (by omega) (by decide))) (fun c1 => ?_)
      refine lv_aload_n hx hb dX4_init_39 rfl (lv_at hl 1 rfl) ?_
      refine va_get (D := (dC, dI)) (ci := 4) (v := .ref q3) (C := RX4) (T := TX4) (N := 5) hx hb hts (by decide +kernel) hown hK hP 0 rfl rfl 2 (by decide) (hts (.fieldLink RX4 20 "RewindBox$Snapshots" "row" "[LRewindBox$Snapshot;") (by decide +kernel)) (fun _ h9 => h9) rfl dX4_init_40 ?_
      refine lv_iload_n hx hb dX4_init_43 rfl (lv_at hl 0 rfl) ?_
      refine va_new (ci := 3) (fs := [.null, .int 0, .int 0, .int 0, .int 0, .int 0, .int 0]) (C := RX3) (T := TX3) (N := 7) hx hb hts (by decide +kernel) tyX3 tyX3_ok hown (hts (.classLink RX4 18 RX3) (by decide +kernel)) (hts (.instantiable RX3 7) (by decide +kernel)) (hts (.initialized RX3) (by decide +kernel)) hK hP hD hS hA rfl (fun j hj => by rcases (show j = 0 ∨ j = 1 ∨ j = 2 ∨ j = 3 ∨ j = 4 ∨ j = 5 ∨ j = 6 by omega) with rfl | rfl | rfl | rfl | rfl | rfl | rfl <;> rfl) (show 3 + 2 * j + 1 ≤ 83 by omega) (show 5352 + 15 * j + 7 ≤ 5952 by omega) dX4_init_44 (fun q H hP hD hS => ?_)
      refine lv_dup hx hb dX4_init_47 rfl ?_
      refine cv_init (As := []) (rest := [.ref q, .int (nI j), .ref q3]) ⟨hx, hb, hml, hown, hts⟩ (c_X3_init l dC dI cI cS q H.size) (cwI 0 hts gX4_init_X3_init rfl rfl rfl (hts (.initialized RX3) (by decide +kernel)) (hts (.methodLink RX4 24 yX3_init) (by decide +kernel)) (hts (.instanceMethod yX3_init) (by decide +kernel)) rfl (by decide +kernel) ⟨Nat.le_of_ble_eq_true rfl, Nat.le_of_ble_eq_true rfl⟩) (fun U hW => va_K.moved hW.alike hK) (fun U V hv h9 => va_K.moved (by rw [hv]; exact Vm.Alike.refl _) h9) hP hD hS hA rfl hl.1 rfl (Nat.le_of_ble_eq_true rfl) dX4_init_48 ⟨show 3 + 2 * j + 1 + 1 ≤ 83 by omega, show 5352 + 15 * j + 7 + 8 ≤ 5952 by omega⟩ (fun u H locs _ hP hD hS => ?_)
      have hlen := plf_len cI b r j
      refine va_astq (qk := 4 + 2 * j) (ci := 3) (r := (RX3, TX3, 7)) (vs := [.ref u, .int 0, .int 0, .int 0, .int 0, .int 0, .int 0]) hx hb hK hP hD hS 3 1 rfl rfl (by
          show ((((h0, .inr (4, [.ref q1, .ref q2, .ref q3, .int 0, .int 0])) :: (q1, .inl (cI, 512, .inl (fun _ => 0))) :: (q2, .inl (cI, 4800, .inl (fun _ => 0))) :: (q3, .inl (cS, 40, .inr (.inr (.inr (.inr (f)))))) :: plf cI b r j)) ++ [(q, .inr (3, [.ref u, .int 0, .int 0, .int 0, .int 0, .int 0, .int 0])), (u, .inl (cI, 8, .inl (fun _ => 0)))])[4 + 2 * j]? = _
          rw [List.getElem?_append_right (by simp [hlen]; omega)]
          simp [hlen]
          rw [show 4 + 2 * j - (2 * j + 1 + 1 + 1 + 1) = 0 by omega]
          rfl) rfl (vp_in_nI (show j < 40 by omega) (by decide)) dX4_init_51 (fun H locs hP hD hS => ?_)
      rw [nI_clamp (by omega)] at hP hD
      have hP : va_P (dC, dI) vwCl ((h0, .inr (4, [.ref q1, .ref q2, .ref q3, .int 0, .int 0])) :: (q1, .inl (cI, 512, .inl (fun _ => 0))) :: (q2, .inl (cI, 4800, .inl (fun _ => 0))) :: (q3, .inl (cS, 40, .inr (.inr (.inr (.inr (va_up f j (some q))))))) :: (plf cI b r j ++ [(q, .inr (3, [.ref u, .int 0, .int 0, .int 0, .int 0, .int 0, .int 0])), (u, .inl (cI, 8, .inl (fun _ => 0)))])) H := hP
      have hD : va_D A ((h0, .inr (4, [.ref q1, .ref q2, .ref q3, .int 0, .int 0])) :: (q1, .inl (cI, 512, .inl (fun _ => 0))) :: (q2, .inl (cI, 4800, .inl (fun _ => 0))) :: (q3, .inl (cS, 40, .inr (.inr (.inr (.inr (va_up f j (some q))))))) :: (plf cI b r j ++ [(q, .inr (3, [.ref u, .int 0, .int 0, .int 0, .int 0, .int 0, .int 0])), (u, .inl (cI, 8, .inl (fun _ => 0)))])) := hD
      rw [← plf_succ] at hP hD
      refine lv_iinc (v := nI (j + 1)) (lv' := [(1, .int (nI (j + 1))), (0, .ref h0)]) hx hb dX4_init_52 hl (k := 0) rfl (nI_1 j) (by decide) rfl (fun ls hl => ?_)
      refine lv_goto (tgt := 33) hx hb dX4_init_55 (by decide) ?_
      refine W.widen (k := 3 + 2 * (j + 1)) (n := 5352 + 15 * (j + 1)) (by omega) (by omega) ?_
      refine ih (j + 1) (va_up b j q) (va_up r j u) (va_up f j (some q)) H locs ls (by omega) (fun i hi => ?_) hP hD hS hl
      by_cases ci : i = j
      · subst ci; rw [vu_at, vu_at]
      · rw [vu_ne _ _ _ ci, vu_ne _ _ _ ci]; exact hf i (by omega)
  exact loop 40 0 (fun _ => 0) (fun _ => 0) (fun _ => none) _ _ _ (by decide) (fun i hi => by omega) hP hD hS hl
end CV
