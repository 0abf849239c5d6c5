/-! THE PURE SIDE, 18: both heaps together; step -/
section PU
def REC (h g : hp) : Prop := ∃ (I p e n : Nat) (q : Nat → Nat) (kd vl f : Nat → Int32) (w : Nat) (ip : Nat → Int32) (rg : Int32), GOK I p e n q kd vl f ∧ w ≤ 100 ∧ (rg = 0 ∨ rg = 1) ∧ KI I p e n q kd vl f w ip rg h ∧ MI I p e n q kd vl f w ip rg g
def NRC (h g : hp) : Prop := (∃ I : Nat, (2 ≤ I ∧ I ≤ 64) ∧ h 0 0 = nI I ∧ g 0 0 = nI I) ∧ h 0 5 = 0 ∧ g 0 9 = 0 ∧ ME (kv h) g ∧ KE g (kv h) ∧ vld g ∧ ∃ m, m < 2 ^ 30 ∧ g 0 8 = nI m
def INV (h g : hp) : Prop := REC h g ∨ NRC h g
theorem step1 {h g : hp} (hR : REC h g) :
    (f_X5_tryStep h = some (0, h) ∧ g 0 11 ≤ g 0 10 ∧ f_X6_live g = some (0, g)) ∨
    ∃ h' g', f_X5_tryStep h = some (1, h') ∧ ((g 0 11 ≤ g 0 10 ∧ f_X6_live g = some (1, g')) ∨ (¬ g 0 11 ≤ g 0 10 ∧ f_X6_again g = some g')) ∧ REC h' g' := by
  obtain ⟨I, p, e, n, q, kd, vl, f, w, ip, rg, hG, hw, hrg, hK, hM⟩ := hR
  have heb := hG.eb
  have hpe : p ≤ e := hG.2.1
  have m11 : g 0 11 = nI e := hM.1.2.2.1
  have m10 : g 0 10 = nI p := by
    have := hM.2.2.2.1.r10
    rw [this]; exact (SS_ok I (LG q kd vl n) f p).2.1
  rcases Nat.lt_or_ge p e with c | c
  · right
    obtain ⟨h', a1, a2⟩ := sbl_class hG c hK
    obtain ⟨g', b1, b2⟩ := again_model hG c hM
    have hG' : GOK I (p + 1) e n q kd vl f := ⟨hG.1, by omega, hG.2.2⟩
    refine ⟨h', g', ?_, Or.inr ⟨by rw [m11, m10]; exact nI_ge c (by omega), b1⟩, I, p + 1, e, n, q, kd, vl, f, w, ip, rg, hG', hw, hrg, a2, b2⟩
    unfold f_X5_tryStep
    obtain ⟨⟨-, -, -, k7, k8⟩, -⟩ := hK
    rw [k7, k8, if_neg (nI_ge c (by omega)), a1, bV_pos rfl]
  · obtain rfl : p = e := by omega
    have hle : g 0 11 ≤ g 0 10 := by rw [m11, m10]; exact nI_le (Nat.le_refl _) (by omega)
    obtain ⟨t0, t2, t1, tp⟩ := try_class hG hw hK
    obtain ⟨s0, s2, s1, sp⟩ := try_model hG hw hM
    have hI := hG.1
    have hinc := hG.2.2.2.2.1
    have hqe := hG.2.2.2.2.2.1
    have hkd := hG.2.2.2.2.2.2.1
    by_cases hz : lkd (SS I (LG q kd vl n) f p) rg w = -1 ∨ FUL I p n (FPs I (LG q kd vl n) f (p / I + 1)) (lkd (SS I (LG q kd vl n) f p) rg w) (ip 0) (SS I (LG q kd vl n) f p)
    · exact Or.inl ⟨t0 hz, hle, s0 hz⟩
    · right
      have hF := fun z => hz (Or.inr z)
      rcases lkd_cases (SS I (LG q kd vl n) f p) rg w with z | z | z | z
      · exact absurd (Or.inl z) hz
      · rw [z] at hF
        obtain ⟨h', a1, a2⟩ := tp z hF
        obtain ⟨g', b1, b2⟩ := sp z hF
        refine ⟨h', g', a1, Or.inl ⟨hle, b1⟩, I, p + 1, p + 1, n, q, kd, vl, f, w, ip, rg, GOK_step (ev := none) hG hG.2.2.2.1 hinc (fun i hi => by have := hqe i hi; omega) hkd (fun _ _ => rfl) (LG_e hqe) (fun y => hF (Or.inr y)), hw, hrg, a2, b2⟩
      · obtain ⟨z, hw0⟩ := z
        rw [z] at hF
        obtain ⟨h', a1, a2⟩ := t1 z hF
        obtain ⟨g', b1, b2⟩ := s1 z hF
        have hn3 : n + 1 ≤ 300 := by
          rcases Nat.lt_or_ge n 300 with y | y
          · omega
          · exact absurd (Or.inl ⟨by decide, by have := hG.2.2.2.1; omega⟩) hF
        obtain ⟨u1, u2e⟩ := LG_up (kd := kd) (vl := vl) (k0 := 1) (v0 := ip 0) hqe
        exact ⟨h', g', a1, Or.inl ⟨hle, b1⟩, I, p + 1, p + 1, n + 1, _, _, _, f, w - 1, _, rg, GOK_step hG hn3 (inc_up hinc hqe) (q_up hqe) (kd_up hkd (Or.inl rfl)) u1 u2e (fun y => hF (Or.inr y)), by omega, hrg, a2, b2⟩
      · rw [z] at hF
        obtain ⟨h', a1, a2⟩ := t2 z hF
        obtain ⟨g', b1, b2⟩ := s2 z hF
        have hn3 : n + 1 ≤ 300 := by
          rcases Nat.lt_or_ge n 300 with y | y
          · omega
          · exact absurd (Or.inl ⟨by decide, by have := hG.2.2.2.1; omega⟩) hF
        obtain ⟨u1, u2e⟩ := LG_up (kd := kd) (vl := vl) (k0 := 2) (v0 := 0) hqe
        exact ⟨h', g', a1, Or.inl ⟨hle, b1⟩, I, p + 1, p + 1, n + 1, _, _, _, f, w, ip, 0, GOK_step hG hn3 (inc_up hinc hqe) (q_up hqe) (kd_up hkd (Or.inr rfl)) u1 u2e (fun y => hF (Or.inr y)), hw, Or.inl rfl, a2, b2⟩
theorem step_loop (x1 y1 x2 : Int32) (hx : x2 ≤ 10000) : ∀ k d m1 m2 (h g : hp), 10001 ≤ d + k → d ≤ 10001 → k < m1 → k + 1 < m2 → REC h g → ∃ r h' g', f_X5_step_19 m1 h x1 x2 (nI d) = some (r, h') ∧ f_X6_step_29 m2 g y1 x2 (nI d) 1 = some (r, g') ∧ REC h' g' := by
  intro k
  induction k with
  | zero =>
    intro d m1 m2 h g hd hd2 hm1 hm2 hR
    obtain ⟨m1, rfl⟩ : ∃ k, m1 = k + 1 := ⟨m1 - 1, by omega⟩
    obtain ⟨m2, rfl⟩ : ∃ k, m2 = k + 1 := ⟨m2 - 1, by omega⟩
    have hle : x2 ≤ nI d := Int32.le_trans hx (nI_le (a := 10000) (by omega) (by omega))
    rw [f_X5_step_19, f_X6_step_29, if_pos hle, if_neg (by decide), if_pos hle]
    exact ⟨_, _, _, rfl, rfl, hR⟩
  | succ k ih =>
    intro d m1 m2 h g hd hd2 hm1 hm2 hR
    obtain ⟨m1, rfl⟩ : ∃ k, m1 = k + 1 := ⟨m1 - 1, by omega⟩
    obtain ⟨m2, rfl⟩ : ∃ k, m2 = k + 1 := ⟨m2 - 1, by omega⟩
    rw [f_X5_step_19, f_X6_step_29]
    by_cases c : x2 ≤ nI d
    · rw [if_pos c, if_neg (by decide), if_pos c]
      exact ⟨_, _, _, rfl, rfl, hR⟩
    · have hd1 : d + 1 ≤ 10001 := by
        rcases Nat.lt_or_ge d 10000 with z | z
        · omega
        · exact absurd (Int32.le_trans hx (nI_le (a := 10000) z (by omega))) c
      rw [if_neg c, if_neg (by decide), if_neg c]
      rcases step1 hR with ⟨a1, a2, a3⟩ | ⟨h', g', a1, a2, a3⟩
      · rw [a1, bM_pos rfl, if_pos rfl, if_pos a2, a3, bM_pos rfl, if_pos rfl]
        simp only [gl]
        obtain ⟨m2, rfl⟩ : ∃ k, m2 = k + 1 := ⟨m2 - 1, by omega⟩
        rw [f_X6_step_29, if_pos rfl, show nI d + 0 = nI d from nI_add d 0]
        exact ⟨_, _, _, rfl, rfl, hR⟩
      · rw [a1, bM_pos rfl, if_neg (by decide), nI_1]
        simp only [gl]
        obtain ⟨r, h2, g2, b1, b2, b3⟩ := ih (d + 1) m1 m2 h' g' (by omega) hd1 (by omega) (by omega) a3
        rcases a2 with ⟨e1, e2⟩ | ⟨e1, e2⟩
        · rw [if_pos e1, e2, bM_pos rfl, if_neg (by decide)]
          exact ⟨r, h2, g2, b1, b2, b3⟩
        · rw [if_neg e1, e2, bV_pos rfl]
          exact ⟨r, h2, g2, b1, b2, b3⟩
theorem rec_on {h g : hp} (hR : REC h g) : h 0 5 = 1 ∧ g 0 9 = 1 := by
  obtain ⟨I, p, e, n, q, kd, vl, f, w, ip, rg, hG, hw, hrg, hK, hM⟩ := hR
  exact ⟨hK.1.2.1, hM.1.2.1⟩
theorem eq_step {h g : hp} (hV : INV h g) (x : Int32) : ∃ r h' g', f_X5_step h x = some (r, h') ∧ f_X6_step g x = some (r, g') ∧ INV h' g' := by
  unfold f_X5_step f_X6_step
  rcases hV with hR | hN
  · obtain ⟨e1, e2⟩ := rec_on hR
    rw [e1, e2, if_neg (show ¬ (1 : Int32) = 0 by decide), if_neg (show ¬ (1 : Int32) = 0 by decide)]
    simp only [gl]
    by_cases c : x ≤ 10000
    · rw [if_neg (Int32.not_lt.mpr c), if_pos c]
      obtain ⟨r, h', g', a1, a2, a3⟩ := step_loop x x x c 10001 0 20000 20000 h g (by omega) (by omega) (by omega) (by omega) hR
      exact ⟨r, h', g', a1, a2, Or.inl a3⟩
    · rw [if_pos (Int32.not_le.mp c), if_neg c]
      obtain ⟨r, h', g', a1, a2, a3⟩ := step_loop x x 10000 (by decide) 10001 0 20000 20000 h g (by omega) (by omega) (by omega) (by omega) hR
      exact ⟨r, h', g', a1, a2, Or.inl a3⟩
  · rw [hN.2.1, hN.2.2.1, if_pos rfl, if_pos rfl]
    exact ⟨_, _, _, rfl, rfl, Or.inr hN⟩
end PU
