/-! THE PURE SIDE, 4: what one step may change -/
section PU
def isp (v : Int32) : Prop := ∃ j, j < 512 ∧ v = nI j
theorem isp_511 (y : Int32) : isp (y &&& 511) := e511 y
def icase (c d : hp) : Prop :=
  (∃ v, isp v ∧ d = u2 c 0 4 v) ∨ (∃ v k w, isp v ∧ k < 8 ∧ d = u2 (u2 c 0 4 v) 3 k w) ∨ (∃ v t w, isp v ∧ t < 512 ∧ d = u2 (u2 (u2 c 0 4 v) 2 t w) 9 (t / 16) 1) ∨
  (∃ v, isp v ∧ 64 ≤ c 0 8 ∧ d = u2 (u2 c 0 4 v) 0 8 (c 0 8 + 1)) ∨ (∃ v w, isp v ∧ ¬ 64 ≤ c 0 8 ∧ d = u2 (u2 (u2 c 0 4 v) 4 (c 0 8).toNatClampNeg w) 0 8 (c 0 8 + 1)) ∨
  (∃ v o, isp v ∧ (o = 0 ∨ o = 1) ∧ d = u2 (u2 c 0 4 v) 0 6 o)
theorem ic1 {c : hp} {v : Int32} (hv : isp v) : icase c (u2 c 0 4 v) := Or.inl ⟨v, hv, rfl⟩
theorem ic2 {c : hp} {v w : Int32} {k : Nat} (hv : isp v) (hk : k < 8) : icase c (u2 (u2 c 0 4 v) 3 k w) := Or.inr (Or.inl ⟨v, k, w, hv, hk, rfl⟩)
theorem ic3 {c : hp} {v w y : Int32} (hv : isp v) : icase c (u2 (u2 (u2 c 0 4 v) 2 (y &&& 511).toNatClampNeg w) 9 ((y &&& 511) / 16).toNatClampNeg 1) := by
  obtain ⟨j, hj, e⟩ := e511 y
  rw [e, nI_d16 (by omega), nI_clamp (by omega), nI_clamp (by omega)]
  exact Or.inr (Or.inr (Or.inl ⟨v, j, w, hv, hj, rfl⟩))
theorem ic4 {c : hp} {v : Int32} (hv : isp v) (h : 64 ≤ c 0 8) : icase c (u2 (u2 c 0 4 v) 0 8 (c 0 8 + 1)) := Or.inr (Or.inr (Or.inr (Or.inl ⟨v, hv, h, rfl⟩)))
theorem ic5 {c : hp} {v w : Int32} (hv : isp v) (h : ¬ 64 ≤ c 0 8) : icase c (u2 (u2 (u2 c 0 4 v) 4 (c 0 8).toNatClampNeg w) 0 8 (c 0 8 + 1)) := Or.inr (Or.inr (Or.inr (Or.inr (Or.inl ⟨v, w, hv, h, rfl⟩))))
theorem ic6 {c : hp} {v o : Int32} (hv : isp v) (h : o = 0 ∨ o = 1) : icase c (u2 (u2 c 0 4 v) 0 6 o) := Or.inr (Or.inr (Or.inr (Or.inr (Or.inr ⟨v, o, hv, h, rfl⟩))))
theorem icase_ite {p : Prop} [Decidable p] {c a b : hp} (h1 : p → icase c a) (h2 : ¬ p → icase c b) : icase c (if p then a else b) := by
  by_cases hp : p
  · rw [if_pos hp]; exact h1 hp
  · rw [if_neg hp]; exact h2 hp
theorem ins_cases {c : hp} (hv : vld c) (x inp op : Int32) : icase c (ins c x inp op) := by
  have hb : isp (c 0 5) := hv.2.1
  have ha : (mfa x).toNatClampNeg < 8 := g7b _
  unfold ins mtg
  repeat' (refine icase_ite (fun _ => ?_) (fun _ => ?_))
  all_goals first | exact ic1 (isp_511 _) | exact ic2 (isp_511 _) ha | exact ic3 (isp_511 _) | (refine ic4 (isp_511 _) ?_; assumption) | (refine ic5 (isp_511 _) ?_; assumption) | exact ic6 (isp_511 _) (Or.inr rfl) | exact ic6 (isp_511 _) (Or.inl rfl) | exact ic6 hb (Or.inr rfl)
/-- what a step leaves as it was, and how it moves the outs and the pages -/
def stepped (c d : hp) : Prop :=
  vld d ∧ d 0 10 = c 0 10 ∧ ((d 0 8 = c 0 8 ∧ d 4 = c 4) ∨ (d 0 8 = c 0 8 + 1 ∧ ∀ k, k ≠ (c 0 8).toNatClampNeg → d 4 k = c 4 k)) ∧
  (∀ k, c 9 k = 1 → d 9 k = 1) ∧ (∀ k, d 9 k = 1 ∨ d 9 k = c 9 k) ∧ ∀ j, j < 512 → d 2 j = c 2 j ∨ d 9 (j / 16) = 1
theorem exi_stepped {c : hp} (hv : vld c) (inp : Int32) : stepped c (exi c inp) := by
  have hc := ins_cases hv (mxw c) inp (mop (mxw c))
  obtain ⟨h1, h2, h3, h4⟩ := hv
  show stepped c (ins c (mxw c) inp (mop (mxw c)))
  generalize ins c (mxw c) inp (mop (mxw c)) = d at hc
  rcases hc with ⟨v, ⟨j, hj, rfl⟩, rfl⟩ | ⟨v, k, w, ⟨j, hj, rfl⟩, hk, rfl⟩ | ⟨v, t, w, ⟨j, hj, rfl⟩, ht, rfl⟩ | ⟨v, ⟨j, hj, rfl⟩, hs, rfl⟩ | ⟨v, w, ⟨j, hj, rfl⟩, hs, rfl⟩ | ⟨v, o, ⟨j, hj, rfl⟩, ho, rfl⟩
  · refine ⟨⟨⟨j, hj, by simp [u2_app]⟩, by simpa [u2_app] using h2, by simpa [u2_app] using h3, by simpa [u2_app] using h4⟩, by simp [u2_app], Or.inl ⟨by simp [u2_app], by rw [u2_ne _ _ _ _ _ (by decide)]⟩, by simp [u2_app], by simp [u2_app], by simp [u2_app]⟩
  · refine ⟨⟨⟨j, hj, by simp [u2_app]⟩, by simpa [u2_app] using h2, by simpa [u2_app] using h3, by simpa [u2_app] using h4⟩, by simp [u2_app], Or.inl ⟨by simp [u2_app], by rw [u2_ne _ _ _ _ _ (by decide), u2_ne _ _ _ _ _ (by decide)]⟩, by simp [u2_app], by simp [u2_app], by simp [u2_app]⟩
  · refine ⟨⟨⟨j, hj, by simp [u2_app]⟩, by simpa [u2_app] using h2, by simpa [u2_app] using h3, fun k hk => ?_⟩, by simp [u2_app], Or.inl ⟨by simp [u2_app], by rw [u2_ne _ _ _ _ _ (by decide), u2_ne _ _ _ _ _ (by decide), u2_ne _ _ _ _ _ (by decide)]⟩, fun k hk => ?_, fun k => ?_, fun i hi => ?_⟩
    · by_cases hkt : k = t / 16
      · simp [u2_app, hkt]
      · simpa [u2_app, hkt] using h4 k hk
    · by_cases hkt : k = t / 16 <;> simp [u2_app, hkt, hk]
    · by_cases hkt : k = t / 16 <;> simp [u2_app, hkt]
    · by_cases hit : i = t
      · right; simp [u2_app, hit]
      · left; simp [u2_app, hit]
  · refine ⟨⟨⟨j, hj, by simp [u2_app]⟩, by simpa [u2_app] using h2, by simpa [u2_app] using h3, by simpa [u2_app] using h4⟩, by simp [u2_app], Or.inr ⟨by simp [u2_app], by simp [u2_app]⟩, by simp [u2_app], by simp [u2_app], by simp [u2_app]⟩
  · refine ⟨⟨⟨j, hj, by simp [u2_app]⟩, by simpa [u2_app] using h2, by simpa [u2_app] using h3, by simpa [u2_app] using h4⟩, by simp [u2_app], Or.inr ⟨by simp [u2_app], fun k hk => by simp [u2_app, hk]⟩, by simp [u2_app], by simp [u2_app], by simp [u2_app]⟩
  · refine ⟨⟨⟨j, hj, by simp [u2_app]⟩, by simpa [u2_app] using h2, by simpa [u2_app] using ho, by simpa [u2_app] using h4⟩, by simp [u2_app], Or.inl ⟨by simp [u2_app], by rw [u2_ne _ _ _ _ _ (by decide), u2_ne _ _ _ _ _ (by decide)]⟩, by simp [u2_app], by simp [u2_app], by simp [u2_app]⟩
theorem rng_stepped {c : hp} (hv : vld c) : stepped c (rng c) := by
  obtain ⟨h1, h2, h3, h4⟩ := hv
  refine ⟨⟨⟨8, by decide, by simp [rng, u2_app]; rfl⟩, by simpa [rng, u2_app] using h1, by simp [rng, u2_app], by simpa [rng, u2_app] using h4⟩, by simp [rng, u2_app], Or.inl ⟨by simp [rng, u2_app], by unfold rng; rw [u2_ne _ _ _ _ _ (by decide), u2_ne _ _ _ _ _ (by decide), u2_ne _ _ _ _ _ (by decide)]⟩, by simp [rng, u2_app], by simp [rng, u2_app], by simp [rng, u2_app]⟩
theorem act_stepped {c : hp} (hv : vld c) (ev : Option (Int32 × Int32)) : stepped c (act ev c) := by
  rcases ev with _ | ⟨k, v⟩
  · exact exi_stepped hv 0
  · show stepped c (if k = 2 then rng c else exi c v)
    by_cases hk : k = 2
    · rw [if_pos hk]; exact rng_stepped hv
    · rw [if_neg hk]; exact exi_stepped hv v
theorem ME_act {c d : hp} (h : ME c d) (hv : vld c) (ev : Option (Int32 × Int32)) : ME (act ev c) (act ev d) := by
  rcases ev with _ | ⟨k, v⟩
  · exact ME_exi h hv 0
  · exact ME_ite (fun _ => ME_rng h) (fun _ => ME_exi h hv v)
theorem pit {α : Type} {P : α → Prop} {p : Prop} [Decidable p] {a b : α} (h1 : p → P a) (h2 : ¬ p → P b) : P (if p then a else b) := by
  by_cases hp : p
  · rw [if_pos hp]; exact h1 hp
  · rw [if_neg hp]; exact h2 hp
/-- the kept outs that went out agree -/
def KE (c d : hp) : Prop := ∀ k, k < 64 → nI k < c 0 8 → c 4 k = d 4 k
theorem sent_lt {m k : Nat} (hm : m < 2 ^ 30) (hk : k < 64) (h : nI k < nI m + 1) : nI k < nI m ∨ k = m := by
  rw [nI_1, nI_ltI (by omega) (by omega)] at h
  rcases Nat.lt_or_ge k m with q | q
  · exact Or.inl (nI_lt q (by omega))
  · exact Or.inr (by omega)
theorem KE_exi {c d : hp} (h : ME c d) (hk : KE c d) (hv : vld c) {m : Nat} (hm : m < 2 ^ 30) (hs : c 0 8 = nI m) (inp : Int32) : KE (exi c inp) (exi d inp) := by
  have hx : mxw c = mxw d := ME_xw h hv
  have e1 : c 3 (mfa (mxw d)).toNatClampNeg = d 3 (mfa (mxw d)).toNatClampNeg := h.reg (g7b _)
  intro k hk64 hlt
  by_cases h13 : mop (mxw d) = 13
  · unfold exi at hlt ⊢
    rw [hx, h13] at hlt ⊢
    by_cases hs64 : 64 ≤ c 0 8
    · have hs64d : 64 ≤ d 0 8 := by rw [← h.r8]; exact hs64
      simp [ins, hs64, hs64d, u2_app] at hlt ⊢
      rw [hs] at hlt hs64
      rcases sent_lt hm hk64 hlt with q | q
      · exact hk k hk64 (by rw [hs]; exact q)
      · subst q
        exact absurd hs64 (fun z => absurd z (nI_ge (a := k) (b := 64) hk64 (by decide)))
    · have hs64d : ¬ 64 ≤ d 0 8 := by rw [← h.r8]; exact hs64
      simp [ins, hs64, hs64d, u2_app] at hlt ⊢
      rw [← h.r8, e1]
      rw [hs] at hlt
      by_cases hkm : k = (c 0 8).toNatClampNeg
      · simp [hkm]
      · simp only [hkm, if_false]
        rcases sent_lt hm hk64 hlt with q | q
        · exact hk k hk64 (by rw [hs]; exact q)
        · exact absurd (by rw [hs, nI_clamp (by omega)]; exact q) hkm
  · have key : ∀ z : hp, (exi z inp) 4 = z 4 ∧ (exi z inp) 0 8 = z 0 8 ∨ mop (mxw z) = 13 := by
      intro z
      by_cases hz : mop (mxw z) = 13
      · exact Or.inr hz
      · left
        unfold exi ins
        simp only [hz, if_false]
        repeat' (refine pit (α := hp) (P := fun d => d 4 = z 4 ∧ d 0 8 = z 0 8) (fun _ => ?_) (fun _ => ?_))
        all_goals exact ⟨by simp [u2_ne], by simp [u2_app]⟩
    rcases key c with ⟨a1, a2⟩ | a1
    · rcases key d with ⟨b1, -⟩ | b1
      · rw [a1, b1]
        rw [a2] at hlt
        exact hk k hk64 hlt
      · exact absurd b1 h13
    · exact absurd (by rw [← hx]; exact a1) h13
theorem KE_act {c d : hp} (h : ME c d) (hk : KE c d) (hv : vld c) {m : Nat} (hm : m < 2 ^ 30) (hs : c 0 8 = nI m) (ev : Option (Int32 × Int32)) : KE (act ev c) (act ev d) := by
  rcases ev with _ | ⟨k, v⟩
  · exact KE_exi h hk hv hm hs 0
  · show KE (if k = 2 then rng c else exi c v) (if k = 2 then rng d else exi d v)
    by_cases hk2 : k = 2
    · rw [if_pos hk2, if_pos hk2]
      intro i hi hlt
      simp [rng, u2_app] at hlt ⊢
      exact hk i hi hlt
    · rw [if_neg hk2, if_neg hk2]; exact KE_exi h hk hv hm hs v
/-- the history: S p is the machine at position p; pas counts the step, and clears the pages where a snapshot lies -/
def pas (I p : Nat) (c : hp) : hp := if (p + 1) % I = 0 then va_up (u2 c 0 10 (nI (p + 1))) 9 (fun _ => 0) else u2 c 0 10 (nI (p + 1))
def Sq (I : Nat) (L : Nat → Option (Int32 × Int32)) (c0 : hp) : Nat → hp
  | 0 => c0
  | p + 1 => pas I p (act (L p) (Sq I L c0 p))
/-- the machine behind step p, before the pages are cleared -/
def Uq (I : Nat) (L : Nat → Option (Int32 × Int32)) (c0 : hp) (p : Nat) : hp := act (L p) (Sq I L c0 p)
theorem vu_at {α : Type} (f : Nat → α) (k : Nat) (v : α) : va_up f k v k = v := by simp [va_up]
theorem vu_ne {α : Type} (f : Nat → α) (k : Nat) (v : α) {j : Nat} (h : j ≠ k) : va_up f k v j = f j := by simp [va_up, h]
theorem pas_row {I p : Nat} {c : hp} {r : Nat} (h0 : r ≠ 0) (h9 : r ≠ 9) : pas I p c r = c r := by
  unfold pas
  by_cases h : (p + 1) % I = 0
  · rw [if_pos h, vu_ne _ _ _ h9, u2_ne _ _ _ _ _ h0]
  · rw [if_neg h, u2_ne _ _ _ _ _ h0]
theorem pas_0 {I p : Nat} {c : hp} {k : Nat} (hk : k ≠ 10) : pas I p c 0 k = c 0 k := by
  unfold pas
  by_cases h : (p + 1) % I = 0
  · rw [if_pos h, vu_ne _ _ _ (by decide)]; simp [u2_app, hk]
  · rw [if_neg h]; simp [u2_app, hk]
theorem pas_10 {I p : Nat} {c : hp} : pas I p c 0 10 = nI (p + 1) := by
  unfold pas
  by_cases h : (p + 1) % I = 0
  · rw [if_pos h, vu_ne _ _ _ (by decide)]; simp [u2_app]
  · rw [if_neg h]; simp [u2_app]
theorem pas_9 {I p : Nat} {c : hp} {k : Nat} : pas I p c 9 k = if (p + 1) % I = 0 then 0 else c 9 k := by
  unfold pas
  by_cases h : (p + 1) % I = 0
  · rw [if_pos h, if_pos h, vu_at]
  · rw [if_neg h, if_neg h, u2_ne _ _ _ _ _ (by decide)]
theorem ME_pas {c d : hp} (h : ME c d) (I p : Nat) : ME (pas I p c) (pas I p d) := by
  refine ME.of ?_ ?_ ?_ ?_ ?_ ?_ ?_ ?_
  · rw [pas_0 (by decide), pas_0 (by decide)]; exact h.r4
  · rw [pas_0 (by decide), pas_0 (by decide)]; exact h.r5
  · rw [pas_0 (by decide), pas_0 (by decide)]; exact h.r6
  · rw [pas_0 (by decide), pas_0 (by decide)]; exact h.r8
  · rw [pas_10, pas_10]
  · intro k hk; rw [pas_row (by decide) (by decide), pas_row (by decide) (by decide)]; exact h.mem hk
  · intro k hk; rw [pas_row (by decide) (by decide), pas_row (by decide) (by decide)]; exact h.reg hk
  · intro k hk; rw [pas_9, pas_9, h.wr hk]
theorem vld_pas {c : hp} (h : vld c) (I p : Nat) : vld (pas I p c) := by
  obtain ⟨h1, h2, h3, h4⟩ := h
  refine ⟨by rw [pas_0 (by decide)]; exact h1, by rw [pas_0 (by decide)]; exact h2, by rw [pas_0 (by decide)]; exact h3, fun k hk => ?_⟩
  rw [pas_9]
  by_cases h : (p + 1) % I = 0
  · rw [if_pos h]; exact Or.inl rfl
  · rw [if_neg h]; exact h4 k hk
/-- every machine of the history is one; its position; at most one out a step -/
theorem Sq_ok {I : Nat} {L : Nat → Option (Int32 × Int32)} {c0 : hp} (hv : vld c0) (h10 : c0 0 10 = nI 0) (h8 : c0 0 8 = nI 0) : ∀ p, vld (Sq I L c0 p) ∧ Sq I L c0 p 0 10 = nI p ∧ ∃ m, m ≤ p ∧ Sq I L c0 p 0 8 = nI m := by
  intro p
  induction p with
  | zero => exact ⟨hv, h10, 0, Nat.le_refl _, h8⟩
  | succ p ih =>
    obtain ⟨a1, a2, m, hm, a3⟩ := ih
    obtain ⟨b1, b2, b3, -⟩ := act_stepped a1 (L p)
    refine ⟨vld_pas b1 I p, pas_10, ?_⟩
    show ∃ m, m ≤ p + 1 ∧ pas I p (act (L p) (Sq I L c0 p)) 0 8 = nI m
    rw [pas_0 (by decide)]
    rcases b3 with ⟨e, -⟩ | ⟨e, -⟩
    · exact ⟨m, by omega, e.trans a3⟩
    · exact ⟨m + 1, by omega, by rw [e, a3, nI_1]⟩
theorem Sq_congr {I : Nat} {L L' : Nat → Option (Int32 × Int32)} {c0 : hp} : ∀ p, (∀ q, q < p → L q = L' q) → Sq I L c0 p = Sq I L' c0 p := by
  intro p
  induction p with
  | zero => intro _; rfl
  | succ p ih =>
    intro h
    show pas I p (act (L p) (Sq I L c0 p)) = pas I p (act (L' p) (Sq I L' c0 p))
    rw [h p (Nat.lt_succ_self p), ih (fun q hq => h q (Nat.lt_succ_of_lt hq))]
/-- outs that went out stay -/
theorem Sq_kept {I : Nat} {L : Nat → Option (Int32 × Int32)} {c0 : hp} (hv : vld c0) (h10 : c0 0 10 = nI 0) (h8 : c0 0 8 = nI 0) {p e : Nat} (hpe : p ≤ e) (he : e < 2 ^ 30) : KE (Sq I L c0 p) (Sq I L c0 e) ∧ ∀ k, k < 64 → nI k < Sq I L c0 p 0 8 → nI k < Sq I L c0 e 0 8 := by
  induction e with
  | zero =>
    obtain rfl : p = 0 := by omega
    exact ⟨fun _ _ _ => rfl, fun _ _ h => h⟩
  | succ e ih =>
    rcases Nat.lt_or_ge p (e + 1) with q | q
    · obtain ⟨i1, i2⟩ := ih (by omega) (by omega)
      obtain ⟨a1, a2, m, hm, a3⟩ := Sq_ok (I := I) (L := L) hv h10 h8 e
      obtain ⟨b1, b2, b3, -⟩ := act_stepped a1 (L e)
      have key : ∀ k, k < 64 → nI k < Sq I L c0 e 0 8 → Sq I L c0 (e + 1) 4 k = Sq I L c0 e 4 k ∧ nI k < Sq I L c0 (e + 1) 0 8 := by
        intro k hk hlt
        show pas I e (act (L e) (Sq I L c0 e)) 4 k = _ ∧ _ < pas I e (act (L e) (Sq I L c0 e)) 0 8
        rw [pas_row (by decide) (by decide), pas_0 (by decide)]
        rcases b3 with ⟨e1, e2⟩ | ⟨e1, e2⟩
        · rw [e1, e2]; exact ⟨rfl, hlt⟩
        · rw [a3] at hlt
          have hkm : k < m := (nI_ltI (by omega) (by omega)).mp hlt
          rw [e1, a3, nI_1]
          refine ⟨e2 k ?_, nI_lt (by omega) (by omega)⟩
          rw [a3, nI_clamp (by omega)]; omega
      refine ⟨fun k hk hlt => ?_, fun k hk hlt => (key k hk (i2 k hk hlt)).2⟩
      rw [(key k hk (i2 k hk hlt)).1]
      exact i1 k hk hlt
    · obtain rfl : p = e + 1 := by omega
      exact ⟨fun _ _ _ => rfl, fun _ _ h => h⟩
end PU
