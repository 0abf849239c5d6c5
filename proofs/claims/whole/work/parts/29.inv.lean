/-! THE PURE SIDE, 10: what ties the class's heap and the reference's heap to a record; a step by the log -/
section PU
def GOK (I p e n : Nat) (q : Nat → Nat) (kd vl f : Nat → Int32) : Prop :=
  (2 ≤ I ∧ I ≤ 64) ∧ p ≤ e ∧ e / I + 1 ≤ 40 ∧ n ≤ 300 ∧ inc q n ∧ (∀ i, i < n → q i < e) ∧ (∀ i, i < n → kd i = 1 ∨ kd i = 2) ∧ FPs I (LG q kd vl n) f (e / I + 1) ≤ 300
theorem GOK.eb {I p e n : Nat} {q : Nat → Nat} {kd vl f : Nat → Int32} (h : GOK I p e n q kd vl f) : e < 2560 := by
  obtain ⟨⟨h1, h2⟩, -, h3, -⟩ := h
  have := Nat.div_add_mod e I
  have := Nat.mod_lt e (show 0 < I by omega)
  have : I * (e / I) ≤ 64 * 39 := Nat.mul_le_mul h2 (by omega)
  omega
def MI (I p e n : Nat) (q : Nat → Nat) (kd vl f : Nat → Int32) (w : Nat) (ip : Nat → Int32) (rg : Int32) (g : hp) : Prop :=
  (g 0 0 = nI I ∧ g 0 9 = 1 ∧ g 0 11 = nI e ∧ g 0 15 = nI n ∧ g 0 17 = nI (e / I + 1) ∧ g 0 21 = nI w ∧ g 0 22 = rg) ∧ g 0 16 = nI (cb q n p) ∧
  ((∀ k, k < 512 → g 1 k = f k) ∧ (∀ i, i < n → g 5 i = nI (q i) ∧ g 6 i = kd i ∧ g 7 i = vl i) ∧ (∀ k, k < e / I + 1 → g 8 k = nI (pgs I (LG q kd vl n) f k)) ∧ ∀ i, i < w → g 10 i = ip i) ∧
  ME g (SS I (LG q kd vl n) f p) ∧ KE (SS I (LG q kd vl n) f p) g
def KI (I p e n : Nat) (q : Nat → Nat) (kd vl f : Nat → Int32) (w : Nat) (ip : Nat → Int32) (rg : Int32) (h : hp) : Prop :=
  (h 0 0 = nI I ∧ h 0 5 = 1 ∧ h 0 6 = rg ∧ h 0 7 = nI p ∧ h 0 8 = nI e) ∧ (∃ fs, fs < 100 ∧ h 5 1 = nI fs ∧ h 5 2 = nI w ∧ ∀ i, i < w → h 6 ((fs + i) % 100) = ip i) ∧
  (h 7 3 = nI n ∧ ∀ i, i < n → h 8 i = nI (q i) ∧ h 9 i = kd i ∧ h 10 i = vl i) ∧
  ME (kv h) (SS I (LG q kd vl n) f p) ∧ KE (SS I (LG q kd vl n) f e) (kv h) ∧ SNP h I (LG q kd vl n) f (e / I)
/-- what a step doesn't touch -/
theorem exi_frame {c : hp} (hv : vld c) (inp : Int32) : (∀ r, r ≠ 0 → r ≠ 2 → r ≠ 3 → r ≠ 4 → r ≠ 9 → exi c inp r = c r) ∧ ∀ k, k ≠ 4 → k ≠ 5 → k ≠ 6 → k ≠ 8 → exi c inp 0 k = c 0 k := by
  have hc := ins_cases hv (mxw c) inp (mop (mxw c))
  unfold exi
  generalize ins c (mxw c) inp (mop (mxw c)) = d at hc
  rcases hc with ⟨v, -, rfl⟩ | ⟨v, k, w, -, hk, rfl⟩ | ⟨v, t, w, -, ht, rfl⟩ | ⟨v, -, hs, rfl⟩ | ⟨v, w, -, hs, rfl⟩ | ⟨v, o, -, ho, rfl⟩ <;>
    exact ⟨fun r a0 a2 a3 a4 a9 => by simp [u2_ne, a0, a2, a3, a4, a9], fun k b4 b5 b6 b8 => by simp [u2_app, b4, b5, b6, b8]⟩
theorem rng_frame (c : hp) : (∀ r, r ≠ 0 → r ≠ 2 → r ≠ 3 → r ≠ 4 → r ≠ 9 → rng c r = c r) ∧ ∀ k, k ≠ 4 → k ≠ 5 → k ≠ 6 → k ≠ 8 → rng c 0 k = c 0 k := by
  unfold rng
  exact ⟨fun r a0 a2 a3 a4 a9 => by simp [u2_ne, a0], fun k b4 b5 b6 b8 => by simp [u2_app, b4, b5, b6]⟩
theorem act_frame {c : hp} (hv : vld c) (ev : Option (Int32 × Int32)) : (∀ r, r ≠ 0 → r ≠ 2 → r ≠ 3 → r ≠ 4 → r ≠ 9 → act ev c r = c r) ∧ ∀ k, k ≠ 4 → k ≠ 5 → k ≠ 6 → k ≠ 8 → act ev c 0 k = c 0 k := by
  rcases ev with _ | ⟨k, v⟩
  · exact exi_frame hv 0
  · by_cases hk : k = 2
    · rw [show act (some (k, v)) c = rng c from if_pos hk]; exact rng_frame c
    · rw [show act (some (k, v)) c = exi c v from if_neg hk]; exact exi_frame hv v
/-- the reference: behind a step's action, the count of steps -/
theorem step_model {g c : hp} {I p m : Nat} {ev : Option (Int32 × Int32)} (hI : 2 ≤ I ∧ I ≤ 64) (h0 : g 0 0 = nI I) (hp : p < 2 ^ 30) (hv : vld c) (h10 : c 0 10 = nI p) (hm : m < 2 ^ 30) (h8 : c 0 8 = nI m) (hME : ME g c) (hKE : KE c g) (ps : Int32) :
    ∃ g', f_X6_pass (u2 (act ev g) 0 16 ps) = some g' ∧ (∀ r, r ≠ 0 → r ≠ 2 → r ≠ 3 → r ≠ 4 → r ≠ 9 → g' r = g r) ∧ (∀ k, k ≠ 4 → k ≠ 5 → k ≠ 6 → k ≠ 8 → k ≠ 10 → k ≠ 16 → g' 0 k = g 0 k) ∧ g' 0 16 = ps ∧ ME g' (pas I p (act ev c)) ∧ KE (pas I p (act ev c)) g' := by
  have hvg : vld g := ME_vld (ME_sy hME) hv
  obtain ⟨f1, f2⟩ := act_frame hvg ev
  have hMa := ME_act (ME_sy hME) hv ev
  have hKa := KE_act (ME_sy hME) hKE hv hm h8 ev
  obtain ⟨g', e1, e2, e3, e4, e5⟩ := pass_model (g := u2 (act ev g) 0 16 ps) (p := p) hI (by simp [u2_app]; rw [f2 0 (by decide) (by decide) (by decide) (by decide)]; exact h0) hp (by simp [u2_app]; rw [f2 10 (by decide) (by decide) (by decide) (by decide), hME.r10]; exact h10)
  refine ⟨g', e1, fun r a0 a2 a3 a4 a9 => ?_, fun k b4 b5 b6 b8 b10 b16 => ?_, ?_, ME.of ?_ ?_ ?_ ?_ ?_ (fun k hk => ?_) (fun k hk => ?_) (fun k hk => ?_), fun k hk hlt => ?_⟩
  · rw [e2 r a0 a9, u2_ne _ _ _ _ _ a0, f1 r a0 a2 a3 a4 a9]
  · rw [e3 k b10]
    simp [u2_app, b16]
    rw [f2 k b4 b5 b6 b8]
  · rw [e3 16 (by decide)]; simp [u2_app]
  · rw [e3 4 (by decide), pas_0 (by decide)]; simp [u2_app]; exact hMa.r4.symm
  · rw [e3 5 (by decide), pas_0 (by decide)]; simp [u2_app]; exact hMa.r5.symm
  · rw [e3 6 (by decide), pas_0 (by decide)]; simp [u2_app]; exact hMa.r6.symm
  · rw [e3 8 (by decide), pas_0 (by decide)]; simp [u2_app]; exact hMa.r8.symm
  · rw [e4, pas_10]
  · rw [e2 2 (by decide) (by decide), pas_row (by decide) (by decide), u2_ne _ _ _ _ _ (by decide)]; exact (hMa.mem hk).symm
  · rw [e2 3 (by decide) (by decide), pas_row (by decide) (by decide), u2_ne _ _ _ _ _ (by decide)]; exact (hMa.reg hk).symm
  · rw [e5 k hk, pas_9, u2_ne _ _ _ _ _ (by decide), hMa.wr hk]
  · rw [pas_0 (by decide)] at hlt
    rw [pas_row (by decide) (by decide), e2 4 (by decide) (by decide), u2_ne _ _ _ _ _ (by decide)]
    exact hKa k hk hlt
theorem gin2 {x N : Nat} (h : x < N) (hN : N < 2 ^ 31) : ¬ (nI x < 0 ∨ N ≤ x) := by
  rintro (z | z)
  · exact nI_pos (by omega) z
  · omega
theorem u2_same (h : hp) (i k : Nat) : u2 h i k (h i k) = h := by
  funext x y
  unfold u2
  by_cases hx : x = i
  · subst hx
    by_cases hy : y = k
    · subst hy; simp
    · simp [hy]
  · simp [hx]
theorem sent_ok {g c : hp} {m : Nat} (h : ME g c) (h8 : c 0 8 = nI m) (hm : m < 2 ^ 30) : ¬ g 0 8 < 0 := by
  rw [h.r8, h8]; exact nI_pos (by omega)
theorem inst_model {g c : hp} {m : Nat} (h : ME g c) (hv : vld c) (h8 : c 0 8 = nI m) (hm : m < 2 ^ 30) (inp : Int32) : f_X6_instruct g (g 2 (g 0 4).toNatClampNeg) inp = some (exi g inp) := ins_model g _ inp (sent_ok h h8 hm)
set_option maxHeartbeats 1000000 in
/-- the reference's step by the log -/
theorem again_model {I p e n : Nat} {q : Nat → Nat} {kd vl f : Nat → Int32} {w : Nat} {ip : Nat → Int32} {rg : Int32} {g : hp} (hG : GOK I p e n q kd vl f) (hp : p < e) (hM : MI I p e n q kd vl f w ip rg g) :
    ∃ g', f_X6_again g = some g' ∧ MI I (p + 1) e n q kd vl f w ip rg g' := by
  have heb := hG.eb
  obtain ⟨hI, hpe, hK, hn, hinc, hqe, hkd, hFP⟩ := hG
  obtain ⟨⟨m0, m9, m11, m15, m17, m21, m22⟩, m16, ⟨m1, m5, m8, m10⟩, hME, hKE⟩ := hM
  obtain ⟨hv, h10, m, hm, h8⟩ := SS_ok I (LG q kd vl n) f p
  have hvg : vld g := ME_vld (ME_sy hME) hv
  have hcl := cb_le q p n
  have hstep := cb_step (p := p) hinc
  have hLG := LG_at (kd := kd) (vl := vl) (p := p) hinc
  -- the way on behind the action
  have fin : ∀ (ps : Int32), ps = nI (cb q n (p + 1)) → ∃ g', f_X6_pass (u2 (act (LG q kd vl n p) g) 0 16 ps) = some g' ∧ MI I (p + 1) e n q kd vl f w ip rg g' := by
    intro ps hps
    obtain ⟨g', e1, e2, e3, e4, e5, e6⟩ := step_model (ev := LG q kd vl n p) hI m0 (by omega) hv h10 (show m < 2 ^ 30 by omega) h8 hME hKE ps
    refine ⟨g', e1, ⟨?_, ?_, ?_, ?_, ?_, ?_, ?_⟩, by rw [e4, hps], ⟨?_, ?_, ?_, ?_⟩, e5, e6⟩
    · rw [e3 0 (by decide) (by decide) (by decide) (by decide) (by decide) (by decide)]; exact m0
    · rw [e3 9 (by decide) (by decide) (by decide) (by decide) (by decide) (by decide)]; exact m9
    · rw [e3 11 (by decide) (by decide) (by decide) (by decide) (by decide) (by decide)]; exact m11
    · rw [e3 15 (by decide) (by decide) (by decide) (by decide) (by decide) (by decide)]; exact m15
    · rw [e3 17 (by decide) (by decide) (by decide) (by decide) (by decide) (by decide)]; exact m17
    · rw [e3 21 (by decide) (by decide) (by decide) (by decide) (by decide) (by decide)]; exact m21
    · rw [e3 22 (by decide) (by decide) (by decide) (by decide) (by decide) (by decide)]; exact m22
    · rw [e2 1 (by decide) (by decide) (by decide) (by decide) (by decide)]; exact m1
    · rw [e2 5 (by decide) (by decide) (by decide) (by decide) (by decide), e2 6 (by decide) (by decide) (by decide) (by decide) (by decide), e2 7 (by decide) (by decide) (by decide) (by decide) (by decide)]; exact m5
    · rw [e2 8 (by decide) (by decide) (by decide) (by decide) (by decide)]; exact m8
    · rw [e2 10 (by decide) (by decide) (by decide) (by decide) (by decide)]; exact m10
  have a16 : ∀ ev, act ev g 0 16 = nI (cb q n p) := fun ev => by rw [(act_frame hvg ev).2 16 (by decide) (by decide) (by decide) (by decide)]; exact m16
  unfold f_X6_again
  rw [m15, m16]
  have hq0 : ∀ i, i < n → q i < 2 ^ 30 := fun i hi => by have := hqe i hi; omega
  have g10 : g 0 10 = nI p := by rw [hME.r10]; exact h10
  by_cases c1 : n ≤ cb q n p
  · rw [if_pos (nI_le c1 (by omega)), gd_pos (hvg.pc), inst_model hME hv h8 (by omega), bV_pos rfl]
    rw [if_neg (by omega)] at hstep hLG
    obtain ⟨g', e1, e2⟩ := fin (nI (cb q n p)) (by rw [hstep])
    rw [hLG, show act none g = exi g 0 from rfl, show nI (cb q n p) = exi g 0 0 16 from (a16 none).symm, u2_same] at e1
    rw [e1, bV_pos rfl]
    exact ⟨g', rfl, e2⟩
  · rw [if_neg (nI_ge (by omega) (by omega)), gd_pos (nI_in (show cb q n p < 300 by omega) (by decide)), nI_clamp (by omega), (m5 _ (by omega)).1, g10]
    have hqb := hq0 (cb q n p) (by omega)
    by_cases c2 : q (cb q n p) = p
    · rw [if_pos (by rw [c2]), gd_pos (gin2 (show cb q n p < 300 by omega) (by decide)), (m5 _ (by omega)).2.2]
      simp only [gl]
      rw [gd_pos (gin2 (show cb q n p < 300 by omega) (by decide)), (m5 _ (by omega)).2.1]
      rw [if_pos ⟨by omega, c2⟩] at hstep hLG
      obtain ⟨g', e1, e2⟩ := fin (nI (cb q n p) + 1) (by rw [hstep, nI_1])
      rw [hLG] at e1
      by_cases c3 : kd (cb q n p) = 2
      · rw [show act (some (kd (cb q n p), vl (cb q n p))) g = rng g from if_pos c3] at e1
        rw [if_pos c3, show f_X6_interrupt g = some (rng g) from rfl, bV_pos rfl, show rng g 0 16 = nI (cb q n p) by rw [(rng_frame g).2 16 (by decide) (by decide) (by decide) (by decide)]; exact m16, e1, bV_pos rfl]
        exact ⟨g', rfl, e2⟩
      · rw [show act (some (kd (cb q n p), vl (cb q n p))) g = exi g (vl (cb q n p)) from if_neg c3] at e1
        rw [if_neg c3, gd_pos (hvg.pc), inst_model hME hv h8 (by omega), bV_pos rfl, show exi g (vl (cb q n p)) 0 16 = nI (cb q n p) by rw [(exi_frame hvg _).2 16 (by decide) (by decide) (by decide) (by decide)]; exact m16, e1, bV_pos rfl]
        exact ⟨g', rfl, e2⟩
    · rw [if_neg (fun z => c2 ((nI_eq (by omega) (by omega)).mp z)), gd_pos (hvg.pc), inst_model hME hv h8 (by omega), bV_pos rfl]
      rw [if_neg (fun z => c2 z.2)] at hstep hLG
      obtain ⟨g', e1, e2⟩ := fin (nI (cb q n p)) (by rw [hstep])
      rw [hLG, show act none g = exi g 0 from rfl, show nI (cb q n p) = exi g 0 0 16 from (a16 none).symm, u2_same] at e1
      rw [e1, bV_pos rfl]
      exact ⟨g', rfl, e2⟩
end PU
