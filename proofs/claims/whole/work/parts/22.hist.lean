/-! THE PURE SIDE, 3: machines that agree, and the history of a record -/
section PU
def dom (r k : Nat) : Prop := (r = 0 ∧ (k = 4 ∨ k = 5 ∨ k = 6 ∨ k = 8 ∨ k = 10)) ∨ (r = 2 ∧ k < 512) ∨ (r = 3 ∧ k < 8) ∨ (r = 9 ∧ k < 32)
def ME (c d : hp) : Prop := ∀ r k, dom r k → c r k = d r k
theorem ME_rf (c : hp) : ME c c := fun _ _ _ => rfl
theorem ME_sy {c d : hp} (h : ME c d) : ME d c := fun r k q => (h r k q).symm
theorem ME_tr {c d e : hp} (h : ME c d) (h2 : ME d e) : ME c e := fun r k q => (h r k q).trans (h2 r k q)
theorem ME.u {c d : hp} (h : ME c d) (i j : Nat) (v : Int32) : ME (u2 c i j v) (u2 d i j v) := by
  intro r k q
  rw [u2_app, u2_app, h r k q]
theorem ME.r4 {c d : hp} (h : ME c d) : c 0 4 = d 0 4 := h 0 4 (Or.inl ⟨rfl, Or.inl rfl⟩)
theorem ME.r5 {c d : hp} (h : ME c d) : c 0 5 = d 0 5 := h 0 5 (Or.inl ⟨rfl, Or.inr (Or.inl rfl)⟩)
theorem ME.r6 {c d : hp} (h : ME c d) : c 0 6 = d 0 6 := h 0 6 (Or.inl ⟨rfl, Or.inr (Or.inr (Or.inl rfl))⟩)
theorem ME.r8 {c d : hp} (h : ME c d) : c 0 8 = d 0 8 := h 0 8 (Or.inl ⟨rfl, Or.inr (Or.inr (Or.inr (Or.inl rfl)))⟩)
theorem ME.r10 {c d : hp} (h : ME c d) : c 0 10 = d 0 10 := h 0 10 (Or.inl ⟨rfl, Or.inr (Or.inr (Or.inr (Or.inr rfl)))⟩)
theorem ME.mem {c d : hp} (h : ME c d) {k : Nat} (hk : k < 512) : c 2 k = d 2 k := h 2 k (Or.inr (Or.inl ⟨rfl, hk⟩))
theorem ME.reg {c d : hp} (h : ME c d) {k : Nat} (hk : k < 8) : c 3 k = d 3 k := h 3 k (Or.inr (Or.inr (Or.inl ⟨rfl, hk⟩)))
theorem ME.wr {c d : hp} (h : ME c d) {k : Nat} (hk : k < 32) : c 9 k = d 9 k := h 9 k (Or.inr (Or.inr (Or.inr ⟨rfl, hk⟩)))
theorem ME.of {c d : hp} (h4 : c 0 4 = d 0 4) (h5 : c 0 5 = d 0 5) (h6 : c 0 6 = d 0 6) (h8 : c 0 8 = d 0 8) (h10 : c 0 10 = d 0 10) (hm : ∀ k, k < 512 → c 2 k = d 2 k) (hr : ∀ k, k < 8 → c 3 k = d 3 k) (hw : ∀ k, k < 32 → c 9 k = d 9 k) : ME c d := by
  intro r k q
  rcases q with ⟨rfl, q⟩ | ⟨rfl, q⟩ | ⟨rfl, q⟩ | ⟨rfl, q⟩
  · rcases q with rfl | rfl | rfl | rfl | rfl <;> assumption
  · exact hm k q
  · exact hr k q
  · exact hw k q
theorem ME_ite {p : Prop} [Decidable p] {a b a' b' : hp} (h1 : p → ME a b) (h2 : ¬ p → ME a' b') : ME (if p then a else a') (if p then b else b') := by
  by_cases hp : p
  · rw [if_pos hp, if_pos hp]; exact h1 hp
  · rw [if_neg hp, if_neg hp]; exact h2 hp
theorem mtg_lt (c : hp) (x : Int32) : (mtg c x).toNatClampNeg < 512 := g511b _
theorem ME_tgt {c d : hp} (h : ME c d) (x : Int32) : mtg c x = mtg d x := by
  unfold mtg
  rw [h.reg (show (mfb x).toNatClampNeg < 8 from g7b _)]
theorem ME_ins {c d : hp} (h : ME c d) (x inp op : Int32) : ME (ins c x inp op) (ins d x inp op) := by
  have e1 : c 3 (mfa x).toNatClampNeg = d 3 (mfa x).toNatClampNeg := h.reg (g7b _)
  have e2 : c 3 (mfb x).toNatClampNeg = d 3 (mfb x).toNatClampNeg := h.reg (g7b _)
  have e3 : c 3 (mfc x).toNatClampNeg = d 3 (mfc x).toNatClampNeg := h.reg (g7b _)
  have e4 : c 2 (mtg d x).toNatClampNeg = d 2 (mtg d x).toNatClampNeg := h.mem (mtg_lt _ _)
  simp only [ins, ME_tgt h x, e1, e2, e3, e4, h.r4, h.r5, h.r8, h.r10]
  repeat' (refine ME_ite (fun _ => ?_) (fun _ => ?_))
  all_goals first | exact ((h.u _ _ _).u _ _ _).u _ _ _ | exact (h.u _ _ _).u _ _ _ | exact h.u _ _ _
/-- the word at PC; one step's action without the count of steps -/
def mxw (c : hp) : Int32 := c 2 (c 0 4).toNatClampNeg
def exi (c : hp) (inp : Int32) : hp := ins c (mxw c) inp (mop (mxw c))
def rng (c : hp) : hp := u2 (u2 (u2 c 0 5 (c 0 4)) 0 4 8) 0 6 0
def act (ev : Option (Int32 × Int32)) (c : hp) : hp := match ev with
  | none => exi c 0
  | some (k, v) => if k = 2 then rng c else exi c v
/-- a machine's places are places, its flags flags -/
def vld (c : hp) : Prop := (∃ j, j < 512 ∧ c 0 4 = nI j) ∧ (∃ j, j < 512 ∧ c 0 5 = nI j) ∧ (c 0 6 = 0 ∨ c 0 6 = 1) ∧ ∀ k, k < 32 → c 9 k = 0 ∨ c 9 k = 1
theorem ME_vld {c d : hp} (h : ME c d) (hv : vld c) : vld d := by
  obtain ⟨h1, h2, h3, h4⟩ := hv
  exact ⟨by rw [← h.r4]; exact h1, by rw [← h.r5]; exact h2, by rw [← h.r6]; exact h3, fun k hk => by rw [← h.wr hk]; exact h4 k hk⟩
theorem vld.pc {c : hp} (hv : vld c) : ¬ (c 0 4 < 0 ∨ 512 ≤ (c 0 4).toNatClampNeg) := by
  obtain ⟨⟨j, hj, e⟩, -⟩ := hv
  rw [e]; exact nI_in hj (by decide)
theorem vld.pcl {c : hp} (hv : vld c) : (c 0 4).toNatClampNeg < 512 := by
  obtain ⟨⟨j, hj, e⟩, -⟩ := hv
  rw [e, nI_clamp (by omega)]; exact hj
theorem ME_xw {c d : hp} (h : ME c d) (hv : vld c) : mxw c = mxw d := by
  unfold mxw
  rw [← h.r4, h.mem hv.pcl]
theorem ME_exi {c d : hp} (h : ME c d) (hv : vld c) (inp : Int32) : ME (exi c inp) (exi d inp) := by
  show ME (ins c (mxw c) inp (mop (mxw c))) (ins d (mxw d) inp (mop (mxw d)))
  rw [ME_xw h hv]
  exact ME_ins h _ _ _
theorem ME_rng {c d : hp} (h : ME c d) : ME (rng c) (rng d) := by
  show ME (u2 (u2 (u2 c 0 5 (c 0 4)) 0 4 8) 0 6 0) (u2 (u2 (u2 d 0 5 (d 0 4)) 0 4 8) 0 6 0)
  rw [h.r4]
  exact ((h.u _ _ _).u _ _ _).u _ _ _
end PU
