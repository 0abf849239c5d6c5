/-! THE LAW, 1: two worlds side by side, and how its calls go -/
section LAW
/-- what the law stands on, behind its two constructors -/
def LC (p : Program) (s : State) (m : MethodId) (meth : Method) (c : Code) (b L : Nat) (xs : Nat → Int32) (dC : Nat → ClassId) (dI : Nat → Nat → Nat) (cI cS cZ : ClassId) (a a2 : Nat → Nat) : Prop :=
  p.tables.exec = Jvm.exec ∧ c.code = code ∧ c.maxLocals = 4 ∧ s.vm.findClass RL = some m.cls ∧ (∀ w ∈ wsL_law, w.before #[Value.ref b] s = true) ∧ va_X b L xs s s.heap ∧ b < s.heap.size ∧ XK (dC, dI) vwCl (kty cI cS) s ∧ XK (dC, dI) vwCl (mty cI cZ) s ∧ xD 95 a ∧ xD 11 a2 ∧ (∀ i, i < 95 → s.heap.size ≤ a i) ∧ (∀ i, i < 11 → s.heap.size ≤ a2 i) ∧ (∀ i j, i < 95 → j < 11 → a i ≠ a2 j) ∧ L ≤ 1537 ∧ meth.sig.returnType = ret ∧ meth.locks = false
/-- the law at a pc, with these two abstract heaps -/
def LJ (p : Program) (l : Launch) (e : Env) (s : State) (m : MethodId) (below : List Frame) (meth : Method) (c : Code) (b : Nat) (dC : Nat → ClassId) (dI : Nat → Nat → Nat) (cI cS cZ : ClassId) (a a2 : Nat → Nat) (h g : hp) (v : List (Nat × Value)) (pc : Nat) : Prop :=
  ∀ (H : Heap) (locs : List Loc) (ls : Array Slot), va_P (dC, dI) vwCl (xw 95 a (kcf cI cS a) h) H → va_P (dC, dI) vwCl (xw 11 a2 (mcf cI cZ a2) g) H → va_S (fun q : Nat => s.heap.size ≤ q) s.heap H locs → lv_has ls 4 v → W p l e room_1 s m #[Value.ref b] below meth c H locs 600000 7302250 (lw_Z below #[Value.ref b] s) (F0 m pc ls [])
theorem and15 (x : Int32) : ∃ z : Nat, z < 16 ∧ (x &&& 15).toInt = (z : Int) := by
  have e : (x &&& 15).toBitVec.toNat = x.toBitVec.toNat % 16 := by
    show (x.toBitVec &&& 15#32).toNat = _
    rw [BitVec.toNat_and]
    exact Nat.and_two_pow_sub_one_eq_mod _ 4
  refine ⟨x.toBitVec.toNat % 16, Nat.mod_lt _ (by decide), ?_⟩
  show (x &&& 15).toBitVec.toInt = _
  rw [BitVec.toInt_eq_toNat_cond, e, if_pos (by omega)]
variable {p : Program} {l : Launch} {e : Env} {s : State} {m : MethodId} {below : List Frame} {meth : Method} {c : Code} {b L : Nat} {xs : Nat → Int32} {dC : Nat → ClassId} {dI : Nat → Nat → Nat} {cI cS cZ : ClassId} {a a2 : Nat → Nat} {h g : hp} {H : Heap} {locs : List Loc} {ls : Array Slot} {rest : List Value} {pc : Nat} {Q : State → Prop}
theorem ls_ld {R : Room} {cells slots : Nat} (C : LC p s m meth c b L xs dC dI cI cS cZ a a2) (hS : va_S (fun q : Nat => s.heap.size ≤ q) s.heap H locs) {n : Nat} {i : Int32} (hi : i = nI n) (hn : n < L) (hdg : decode code pc = .ok (.iaload, 1)) (kk : W p l e R s m #[Value.ref b] below meth c H locs cells slots Q (F0 m (pc + 1) ls (.int (xs n) :: rest))) : W p l e R s m #[Value.ref b] below meth c H locs cells slots Q (F0 m pc ls (.int i :: .ref b :: rest)) := by
  obtain ⟨hx, hb, hml, hown, hts, hX, hbl, hK1, hK2, hD1, hD2, hA1, hA2, hdis, hL, hr, hlk⟩ := id C
  subst hi
  refine va_sld hx hb hX hbl (A := (fun q : Nat => s.heap.size ≤ q)) (Nat.not_le.mpr hbl) hS (vp_in_nI hn (by omega)) hdg ?_
  rw [nI_clamp (by omega)]
  exact kk
theorem lk_i (C : LC p s m meth c b L xs dC dI cI cS cZ a a2) {y : MethodName} {ws : List Cond} {rm : Room} {bytes : ByteArray} {maxL k index : Nat} {ret : Option FieldType} {h1 : hp} {stk : List Value} {r : Int32} (hP1 : va_P (dC, dI) vwCl (xw 95 a (kcf cI cS a) h) H) (hP2 : va_P (dC, dI) vwCl (xw 11 a2 (mcf cI cZ a2) g) H) (hS : va_S (fun q : Nat => s.heap.size ≤ q) s.heap H locs) (hsz : ls.size = 4) (As : List Value) (rest : List Value) (hM : XMi l y ws rm (dC, dI) vwCl (kty cI cS) 95 a (kcf cI cS a) h (.ref (a 0) :: As) r h1) (cw : CallW room_1 s #[Value.ref b] RL RX5 index y bytes maxL ret ws rm 0 0 k) (hstk : stk = As.reverse ++ .ref (a 0) :: rest) (hk : As.length = k) (hroom : (rest.map fun v => v.category).sum ≤ 8) (hdg : decode code pc = .ok (.invokevirtual index, 3)) (kk : ∀ (H1 : Heap) (locs1 : List Loc), va_P (dC, dI) vwCl (xw 95 a (kcf cI cS a) h1) H1 → va_P (dC, dI) vwCl (xw 11 a2 (mcf cI cZ a2) g) H1 → va_S (fun q : Nat => s.heap.size ≤ q) s.heap H1 locs1 → W p l e room_1 s m #[Value.ref b] below meth c H1 locs1 600000 7302250 Q (F0 m (pc + 3) ls (.int r :: rest))) : W p l e room_1 s m #[Value.ref b] below meth c H locs 600000 7302250 Q (F0 m pc ls stk) := by
  obtain ⟨hx, hb, hml, hown, hts, hX, hbl, hK1, hK2, hD1, hD2, hA1, hA2, hdis, hL, hr, hlk⟩ := id C
  have hsub : ∀ q, xA 95 a q → s.heap.size ≤ q := fun q z => by
    obtain ⟨i, hi, e9⟩ := z
    rw [← e9]
    exact hA1 i hi
  refine va_calli (va_runV (As := As) (rest := rest) ⟨hx, hb, hml, hown, hts⟩ hM cw ⟨xpc_blind, va_recv hK1.1 hP1 rfl (xw_e (i := 0) (by decide) rfl), fun U hU hW => ⟨rfl, by rw [hU]; exact hP1, XK.warm hW hK1⟩⟩ rfl hk hsz hstk (lv_room hroom) hdg ⟨Nat.le_refl _, Nat.le_refl _⟩) hS (fun q _ z => hsub q z) hsub (fun r9 _ _ H1 locs1 ht _ hr9 hB _ hkp hS1 => ?_)
  subst hr9
  exact kk H1 locs1 (by rw [← ht]; exact hB) (hP2.kept (fun k q hk => by
    obtain ⟨hk9, rfl⟩ := xw_of hk
    exact hkp _ (hP2 k _ hk).lt (fun z => by
      obtain ⟨i, hi, e9⟩ := z
      exact hdis i k hi hk9 e9))) hS1
theorem lk_v (C : LC p s m meth c b L xs dC dI cI cS cZ a a2) {y : MethodName} {ws : List Cond} {rm : Room} {bytes : ByteArray} {maxL k index : Nat} {ret : Option FieldType} {h1 : hp} {stk : List Value} (hP1 : va_P (dC, dI) vwCl (xw 95 a (kcf cI cS a) h) H) (hP2 : va_P (dC, dI) vwCl (xw 11 a2 (mcf cI cZ a2) g) H) (hS : va_S (fun q : Nat => s.heap.size ≤ q) s.heap H locs) (hsz : ls.size = 4) (As : List Value) (rest : List Value) (hM : XMv l y ws rm (dC, dI) vwCl (kty cI cS) 95 a (kcf cI cS a) h (.ref (a 0) :: As) h1) (cw : CallW room_1 s #[Value.ref b] RL RX5 index y bytes maxL ret ws rm 0 0 k) (hstk : stk = As.reverse ++ .ref (a 0) :: rest) (hk : As.length = k) (hroom : (rest.map fun v => v.category).sum ≤ 8) (hdg : decode code pc = .ok (.invokevirtual index, 3)) (kk : ∀ (H1 : Heap) (locs1 : List Loc), va_P (dC, dI) vwCl (xw 95 a (kcf cI cS a) h1) H1 → va_P (dC, dI) vwCl (xw 11 a2 (mcf cI cZ a2) g) H1 → va_S (fun q : Nat => s.heap.size ≤ q) s.heap H1 locs1 → W p l e room_1 s m #[Value.ref b] below meth c H1 locs1 600000 7302250 Q (F0 m (pc + 3) ls (rest))) : W p l e room_1 s m #[Value.ref b] below meth c H locs 600000 7302250 Q (F0 m pc ls stk) := by
  obtain ⟨hx, hb, hml, hown, hts, hX, hbl, hK1, hK2, hD1, hD2, hA1, hA2, hdis, hL, hr, hlk⟩ := id C
  have hsub : ∀ q, xA 95 a q → s.heap.size ≤ q := fun q z => by
    obtain ⟨i, hi, e9⟩ := z
    rw [← e9]
    exact hA1 i hi
  refine va_callv (va_runV (As := As) (rest := rest) ⟨hx, hb, hml, hown, hts⟩ hM cw ⟨xpc_blind, va_recv hK1.1 hP1 rfl (xw_e (i := 0) (by decide) rfl), fun U hU hW => ⟨rfl, by rw [hU]; exact hP1, XK.warm hW hK1⟩⟩ rfl hk hsz hstk (lv_room hroom) hdg ⟨Nat.le_refl _, Nat.le_refl _⟩) hS (fun q _ z => hsub q z) hsub (fun _ _ H1 locs1 ht _ hr9 hB _ hkp hS1 => ?_)
  exact kk H1 locs1 (by rw [← ht]; exact hB) (hP2.kept (fun k q hk => by
    obtain ⟨hk9, rfl⟩ := xw_of hk
    exact hkp _ (hP2 k _ hk).lt (fun z => by
      obtain ⟨i, hi, e9⟩ := z
      exact hdis i k hi hk9 e9))) hS1
theorem lm_i (C : LC p s m meth c b L xs dC dI cI cS cZ a a2) {y : MethodName} {ws : List Cond} {rm : Room} {bytes : ByteArray} {maxL k index : Nat} {ret : Option FieldType} {h1 : hp} {stk : List Value} {r : Int32} (hP1 : va_P (dC, dI) vwCl (xw 95 a (kcf cI cS a) h) H) (hP2 : va_P (dC, dI) vwCl (xw 11 a2 (mcf cI cZ a2) g) H) (hS : va_S (fun q : Nat => s.heap.size ≤ q) s.heap H locs) (hsz : ls.size = 4) (As : List Value) (rest : List Value) (hM : XMi l y ws rm (dC, dI) vwCl (mty cI cZ) 11 a2 (mcf cI cZ a2) g (.ref (a2 0) :: As) r h1) (cw : CallW room_1 s #[Value.ref b] RL RX6 index y bytes maxL ret ws rm 0 0 k) (hstk : stk = As.reverse ++ .ref (a2 0) :: rest) (hk : As.length = k) (hroom : (rest.map fun v => v.category).sum ≤ 8) (hdg : decode code pc = .ok (.invokevirtual index, 3)) (kk : ∀ (H1 : Heap) (locs1 : List Loc), va_P (dC, dI) vwCl (xw 95 a (kcf cI cS a) h) H1 → va_P (dC, dI) vwCl (xw 11 a2 (mcf cI cZ a2) h1) H1 → va_S (fun q : Nat => s.heap.size ≤ q) s.heap H1 locs1 → W p l e room_1 s m #[Value.ref b] below meth c H1 locs1 600000 7302250 Q (F0 m (pc + 3) ls (.int r :: rest))) : W p l e room_1 s m #[Value.ref b] below meth c H locs 600000 7302250 Q (F0 m pc ls stk) := by
  obtain ⟨hx, hb, hml, hown, hts, hX, hbl, hK1, hK2, hD1, hD2, hA1, hA2, hdis, hL, hr, hlk⟩ := id C
  have hsub : ∀ q, xA 11 a2 q → s.heap.size ≤ q := fun q z => by
    obtain ⟨i, hi, e9⟩ := z
    rw [← e9]
    exact hA2 i hi
  refine va_calli (va_runV (As := As) (rest := rest) ⟨hx, hb, hml, hown, hts⟩ hM cw ⟨xpc_blind, va_recv hK2.1 hP2 rfl (xw_e (i := 0) (by decide) rfl), fun U hU hW => ⟨rfl, by rw [hU]; exact hP2, XK.warm hW hK2⟩⟩ rfl hk hsz hstk (lv_room hroom) hdg ⟨Nat.le_refl _, Nat.le_refl _⟩) hS (fun q _ z => hsub q z) hsub (fun r9 _ _ H1 locs1 ht _ hr9 hB _ hkp hS1 => ?_)
  subst hr9
  exact kk H1 locs1 (hP1.kept (fun k q hk => by
    obtain ⟨hk9, rfl⟩ := xw_of hk
    exact hkp _ (hP1 k _ hk).lt (fun z => by
      obtain ⟨i, hi, e9⟩ := z
      exact hdis k i hk9 hi e9.symm))) (by rw [← ht]; exact hB) hS1
theorem lm_v (C : LC p s m meth c b L xs dC dI cI cS cZ a a2) {y : MethodName} {ws : List Cond} {rm : Room} {bytes : ByteArray} {maxL k index : Nat} {ret : Option FieldType} {h1 : hp} {stk : List Value} (hP1 : va_P (dC, dI) vwCl (xw 95 a (kcf cI cS a) h) H) (hP2 : va_P (dC, dI) vwCl (xw 11 a2 (mcf cI cZ a2) g) H) (hS : va_S (fun q : Nat => s.heap.size ≤ q) s.heap H locs) (hsz : ls.size = 4) (As : List Value) (rest : List Value) (hM : XMv l y ws rm (dC, dI) vwCl (mty cI cZ) 11 a2 (mcf cI cZ a2) g (.ref (a2 0) :: As) h1) (cw : CallW room_1 s #[Value.ref b] RL RX6 index y bytes maxL ret ws rm 0 0 k) (hstk : stk = As.reverse ++ .ref (a2 0) :: rest) (hk : As.length = k) (hroom : (rest.map fun v => v.category).sum ≤ 8) (hdg : decode code pc = .ok (.invokevirtual index, 3)) (kk : ∀ (H1 : Heap) (locs1 : List Loc), va_P (dC, dI) vwCl (xw 95 a (kcf cI cS a) h) H1 → va_P (dC, dI) vwCl (xw 11 a2 (mcf cI cZ a2) h1) H1 → va_S (fun q : Nat => s.heap.size ≤ q) s.heap H1 locs1 → W p l e room_1 s m #[Value.ref b] below meth c H1 locs1 600000 7302250 Q (F0 m (pc + 3) ls (rest))) : W p l e room_1 s m #[Value.ref b] below meth c H locs 600000 7302250 Q (F0 m pc ls stk) := by
  obtain ⟨hx, hb, hml, hown, hts, hX, hbl, hK1, hK2, hD1, hD2, hA1, hA2, hdis, hL, hr, hlk⟩ := id C
  have hsub : ∀ q, xA 11 a2 q → s.heap.size ≤ q := fun q z => by
    obtain ⟨i, hi, e9⟩ := z
    rw [← e9]
    exact hA2 i hi
  refine va_callv (va_runV (As := As) (rest := rest) ⟨hx, hb, hml, hown, hts⟩ hM cw ⟨xpc_blind, va_recv hK2.1 hP2 rfl (xw_e (i := 0) (by decide) rfl), fun U hU hW => ⟨rfl, by rw [hU]; exact hP2, XK.warm hW hK2⟩⟩ rfl hk hsz hstk (lv_room hroom) hdg ⟨Nat.le_refl _, Nat.le_refl _⟩) hS (fun q _ z => hsub q z) hsub (fun _ _ H1 locs1 ht _ hr9 hB _ hkp hS1 => ?_)
  exact kk H1 locs1 (hP1.kept (fun k q hk => by
    obtain ⟨hk9, rfl⟩ := xw_of hk
    exact hkp _ (hP1 k _ hk).lt (fun z => by
      obtain ⟨i, hi, e9⟩ := z
      exact hdis k i hk9 hi e9.symm))) (by rw [← ht]; exact hB) hS1
set_option maxHeartbeats 1000000 in
theorem c_cell (l : Launch) (b L : Nat) (xs : Nat → Int32) (hL : L ≤ 1537) : Met l yL_cell wsL_cell { frames := 1, cells := 0, slots := 0, locals := 12 } (va_Pc [.ref b, .int 0] (fun U => va_X b L xs U U.heap)) (va_Qi (fun (r : Int32) (_ : Unit) => r = if 0 < L then xs 0 else 0) (fun _ _ => True) (fun _ => False)) 0 0 (fun _ => False) := by
  refine Met.ofW (cc := cL_cell) (maxL := 2) (ret := some .int) (by decide) rfl ?_
  intro p e s m args below meth c s₁ B hml hv
  obtain ⟨rfl, hX⟩ := hv
  have hx := B.exec
  have hb := B.bytes
  have hr := B.returns
  have hlocks := B.notSynchronized
  have hS : va_S (fun _ => False) s.heap s.heap [] := va_S.rf
  have hbl : b < s.heap.size := by
    obtain ⟨scr, hcb, -⟩ := hX
    exact (Array.getElem?_eq_some_iff.mp hcb).1
  have hl := lv_entry ([.ref b, .int 0]) (n := 2) (Nat.le_of_ble_eq_true rfl)
  rw [lg_entry_eq]
  generalize (lg_sl ([.ref b, .int 0]) ++ List.replicate (2 - (lg_sl ([.ref b, .int 0])).length) Slot.unset).toArray = ls at hl ⊢
  have hl : lv_has ls 2 [(0, .ref b), (1, .int 0)] := hl
  refine lv_iload_n hx hb dL_cell_0 rfl (lv_at hl 1 rfl) ?_
  refine lv_aload_n hx hb dL_cell_1 rfl (lv_at hl 0 rfl) ?_
  refine va_slen hx hb hX hbl (A := fun _ => False) (fun z => z) hS dL_cell_2 ?_
  refine lv_icmp_ge (tgt := 12) hx hb dL_cell_3 (by decide) (fun c1 => ?_) (fun c1 => ?_)
  · have hz : ¬ 0 < L := fun z => nI_ge (a := 0) (b := L) z (by omega) c1
    refine lv_iconst (v := 0) hx hb dL_cell_12 (by decide) ?_
    exact W.iret hx hb hr (fun t ht hW => ⟨⟨0, (), rfl, by rw [if_neg hz], trivial⟩, hS.F ht⟩) hS.2.2 dL_cell_13 hlocks
  · have hz : 0 < L := Nat.pos_of_ne_zero (fun z => c1 (by subst z; decide))
    refine lv_aload_n hx hb dL_cell_6 rfl (lv_at hl 0 rfl) ?_
    refine lv_iload_n hx hb dL_cell_7 rfl (lv_at hl 1 rfl) ?_
    refine va_sld hx hb hX hbl (A := fun _ => False) (fun z => z) hS (vp_in_nI (n := 0) hz (by omega)) dL_cell_8 ?_
    refine lv_goto (tgt := 13) hx hb dL_cell_9 (by decide) ?_
    exact W.iret hx hb hr (fun t ht hW => ⟨⟨xs 0, (), rfl, by rw [if_pos hz], trivial⟩, hS.F ht⟩) hS.2.2 dL_cell_13 hlocks
end LAW
