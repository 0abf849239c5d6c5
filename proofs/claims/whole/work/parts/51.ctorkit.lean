/-! CONSTRUCTORS, 2: a constructor is called on the newest cell; the row of snapshots -/
section CV
theorem vl_P {D : va_G} {cl : List vw_C} {ws : va_W} {x : Nat × va_E} {H : Heap} (hP : va_P D cl (ws ++ [x]) H) : va_P D cl [x] H := by
  intro k q hk
  have hz : k < 1 := (List.getElem?_eq_some_iff.mp hk).1
  obtain rfl : k = 0 := by omega
  cases hk
  exact hP ws.length x (by simp)
theorem vl_D {A : Nat → Prop} {ws : va_W} {x : Nat × va_E} (hD : va_D A (ws ++ [x])) : va_D A [x] := by
  refine ⟨fun i j p q h1 h2 _ => ?_, fun k q hk => ?_⟩
  · have := (List.getElem?_eq_some_iff.mp h1).1
    have := (List.getElem?_eq_some_iff.mp h2).1
    simp at *
    omega
  · have hz : k < 1 := (List.getElem?_eq_some_iff.mp hk).1
    obtain rfl : k = 0 := by omega
    cases hk
    exact hD.2 ws.length x (by simp)
theorem vl_map (ws : va_W) (x : Nat × va_E) : (List.range ws.length).map (fun i => (ws ++ [x])[i]?) = ws.map some := by
  apply List.ext_getElem?
  intro i
  by_cases h : i < ws.length
  · have e := List.getElem?_append_left (l₂ := [x]) h
    simp [h]
    rw [e]
    simp [h]
  · simp [h]
theorem vl_last (ws : va_W) (x : Nat × va_E) : [ws.length].map (fun i => (ws ++ [x])[i]?) = [x].map some := by simp
theorem nd_of : ∀ l : List Nat, l.Nodup → va_nd l = true := by
  intro l
  induction l with
  | nil => intro _; rfl
  | cons a l ih =>
    intro h
    rw [List.nodup_cons] at h
    simp only [va_nd, Bool.and_eq_true, decide_eq_true_eq]
    exact ⟨h.1, ih h.2⟩
variable {p : Program} {l : Launch} {e : Env} {R : Room} {s : State} {m : MethodId} {args : Array Value} {below : List Frame} {meth : Method} {c : Code} {H : Heap} {locs : List Loc} {cells slots : Nat} {Q : State → Prop}
variable {cc : ByteArray} {pc : Nat} {ls : Array Slot} {rest : List Value} {D : va_G} {cl : List vw_C} {A : Nat → Prop} {tys : List (ClassId × FieldType)} {ws : va_W} {H0 : Heap}
theorem cv_init {S : Type} {y : MethodName} {bytes : ByteArray} {maxL nL mc ms n index : Nat} {wn : List Cond} {rm : Room} {Ts : List Cond} {own : String} {q : Nat} {E : va_E} {As : List Value} {stk : List Value} {PK : State → Prop} {post : S → Prop} {w1 : S → va_W} (C5 : CallFix p m c cc nL s args Ts own)
    (hM : Met l y wn rm (va_Pc (.ref q :: As) (fun U => U.heap.size = H.size ∧ va_P D cl [(q, E)] U.heap ∧ PK U ∧ va_D (fun _ => True) [(q, E)])) (va_Qv post (fun u t => va_P D cl (w1 u) t.heap ∧ PK t ∧ va_D (va_A [(q, E)] H.size) (w1 u)) (va_A [(q, E)] H.size)) mc ms (va_A [(q, E)] H.size))
    (cw : CallB R s args own index y bytes maxL none wn rm mc ms n ∧ y.name = "<init>" ∧ (Cond.instanceMethod y).before args s = true) (hK1 : ∀ U : State, s.WarmedH U.vm → PK U) (hK2 : ∀ U V : State, U.vm = V.vm → PK U → PK V)
    (hP : va_P D cl (ws ++ [(q, E)]) H) (hD : va_D A (ws ++ [(q, E)])) (hS : va_S A H0 H locs) (hA : ∀ q, H0.size ≤ q → A q) (hn : As.length = n) (hsz : ls.size = nL) (hstk : stk = As.reverse ++ .ref q :: rest) (hroom : (rest.map fun v => v.category).sum ≤ 8) (hdg : decode cc pc = .ok (.invokespecial index, 3)) (hf : cells + mc ≤ R.cells ∧ slots + ms ≤ R.slots)
    (kk : ∀ (u : S) (H1 : Heap) (locs1 : List Loc), post u → va_P D cl (ws ++ w1 u) H1 → va_D A (ws ++ w1 u) → va_S A H0 H1 locs1 → W p l e R s m args below meth c H1 locs1 (cells + mc) (slots + ms) Q (F0 m (pc + 3) ls rest)) : W p l e R s m args below meth c H locs cells slots Q (F0 m pc ls stk) := by
  have hPc := vl_P hP
  have hDc := vl_D hD
  have hFc := va_free (wc := [(q, E)]) hD hS hA [ws.length] (vl_last ws _)
  refine va_callv (va_runI (As := As) (rest := rest) C5 hM cw ⟨fun a U g mk z => ?_, fun U hU hW => ⟨rfl, by rw [hU], by rw [hU]; exact hPc, hK1 U hW, hDc.weaken (fun _ _ _ _ => trivial)⟩⟩ rfl hn hsz hstk (lv_room hroom) hdg hf) hS (fun q _ h => hFc q h) hFc (fun u t H1 locs1 ht hvm hw hB hz1 hk1 hS1 => ?_)
  · obtain ⟨z0, z1, zP, zK, zD⟩ := z
    exact ⟨z0, z1, zP, hK2 U (U.calling g mk a) rfl zK, zD⟩
  · obtain ⟨hP1, -, hD1⟩ := hB
    rw [ht] at hP1
    obtain ⟨hP2, hD2⟩ := va_join (wr := ws) (w1 := w1 u) hP hD [ws.length] (List.range ws.length) (vl_last ws _) (vl_map ws _) (nd_of _ List.nodup_range) (fun i hi => by simp at hi ⊢; omega) hk1 hFc hP1 hD1
    exact kk u H1 locs1 hw hP2 hD2 hS1
theorem arrV_eq (cI : ClassId) {N : Nat} {f g : Nat → Value} (h : ∀ j, j < N → f j = g j) : arrV cI N f = arrV cI N g := by
  unfold arrV
  congr 2
  funext j
  exact h j.val j.isLt
theorem fm_congr {α β : Type} {f g : α → List β} : ∀ {l : List α}, (∀ k ∈ l, f k = g k) → l.flatMap f = l.flatMap g := by
  intro l
  induction l with
  | nil => intro _; rfl
  | cons a l ih =>
    intro h
    rw [List.flatMap_cons, List.flatMap_cons, h a List.mem_cons_self, ih (fun k hk => h k (List.mem_cons_of_mem _ hk))]
/-- j snapshots, each with its registers -/
def plf (cI : ClassId) (b r : Nat → Nat) (j : Nat) : va_W := (List.range j).flatMap (fun k => [(b k, .inr (3, [.ref (r k), .int 0, .int 0, .int 0, .int 0, .int 0, .int 0])), (r k, .inl (cI, 8, .inl (fun _ => 0)))])
theorem plf_len (cI : ClassId) (b r : Nat → Nat) : ∀ j, (plf cI b r j).length = 2 * j := by
  intro j
  induction j with
  | zero => rfl
  | succ j ih =>
    unfold plf at *
    rw [List.range_succ, List.flatMap_append, List.length_append, ih]
    simp
    omega
theorem plf_succ (cI : ClassId) (b r : Nat → Nat) (j q q' : Nat) : plf cI (va_up b j q) (va_up r j q') (j + 1) = plf cI b r j ++ [(q, .inr (3, [.ref q', .int 0, .int 0, .int 0, .int 0, .int 0, .int 0])), (q', .inl (cI, 8, .inl (fun _ => 0)))] := by
  unfold plf
  rw [List.range_succ, List.flatMap_append]
  congr 1
  · apply fm_congr
    intro k hk
    have : k < j := List.mem_range.mp hk
    rw [vu_ne _ _ _ (by omega), vu_ne _ _ _ (by omega)]
  · simp [vu_at]
theorem plf_at (cI : ClassId) (b r : Nat → Nat) : ∀ j k, k < j → (plf cI b r j)[2 * k]? = some (b k, .inr (3, [.ref (r k), .int 0, .int 0, .int 0, .int 0, .int 0, .int 0])) ∧ (plf cI b r j)[2 * k + 1]? = some (r k, .inl (cI, 8, .inl (fun _ => 0))) := by
  intro j
  induction j with
  | zero => intro k h; omega
  | succ j ih =>
    intro k hk
    have e : plf cI b r (j + 1) = plf cI b r j ++ [(b j, .inr (3, [.ref (r j), .int 0, .int 0, .int 0, .int 0, .int 0, .int 0])), (r j, .inl (cI, 8, .inl (fun _ => 0)))] := by
      unfold plf
      rw [List.range_succ, List.flatMap_append]
      simp
    have hl := plf_len cI b r j
    rw [e]
    rcases Nat.lt_or_ge k j with z | z
    · obtain ⟨a1, a2⟩ := ih k z
      rw [List.getElem?_append_left (by omega), List.getElem?_append_left (by omega)]
      exact ⟨a1, a2⟩
    · obtain rfl : k = j := by omega
      rw [List.getElem?_append_right (by omega), List.getElem?_append_right (by omega), hl, Nat.sub_self, show 2 * k + 1 - 2 * k = 1 by omega]
      exact ⟨rfl, rfl⟩
end CV
