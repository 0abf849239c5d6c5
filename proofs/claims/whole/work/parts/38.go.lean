/-! THE PURE SIDE, 19: go, far, cut -/
section PU
theorem cb_0 (q : Nat → Nat) : ∀ n, cb q n 0 = 0 := by
  intro n
  induction n with
  | zero => rfl
  | succ n ih =>
    show cb q n 0 + (if q n < 0 then 1 else 0) = 0
    rw [ih, if_neg (by omega)]
theorem go_kloop {I e n : Nat} {q : Nat → Nat} {kd vl f : Nat → Int32} {w : Nat} {ip : Nat → Int32} {rg : Int32} (x1 x2 : Int32) : ∀ j m p (h : hp), GOK I p e n q kd vl f → p + j ≤ e → j < m → KI I p e n q kd vl f w ip rg h → ∃ h', f_X5_go_46 m h x1 x2 (nI j) = some (1, h') ∧ KI I (p + j) e n q kd vl f w ip rg h' := by
  intro j
  induction j with
  | zero =>
    intro m p h hG hp hm hK
    obtain ⟨m, rfl⟩ : ∃ k, m = k + 1 := ⟨m - 1, by omega⟩
    rw [f_X5_go_46, if_pos (by decide)]
    exact ⟨h, rfl, hK⟩
  | succ j ih =>
    intro m p h hG hp hm hK
    have heb := hG.eb
    obtain ⟨m, rfl⟩ : ∃ k, m = k + 1 := ⟨m - 1, by omega⟩
    rw [f_X5_go_46, if_neg (nI_nle (by omega) (by omega))]
    obtain ⟨h1, a1, a2⟩ := sbl_class hG (by omega) hK
    rw [a1, bV_pos rfl, pk_m1]
    obtain ⟨h2, b1, b2⟩ := ih m (p + 1) h1 ⟨hG.1, by omega, hG.2.2⟩ (by omega) (by omega) a2
    exact ⟨h2, b1, by rw [show p + (j + 1) = p + 1 + j by omega]; exact b2⟩
theorem go_mloop {I e n : Nat} {q : Nat → Nat} {kd vl f : Nat → Int32} {w : Nat} {ip : Nat → Int32} {rg : Int32} {k : Nat} (hk : k ≤ e) : ∀ j m p (g : hp), GOK I p e n q kd vl f → p + j = k → j < m → MI I p e n q kd vl f w ip rg g → ∃ g', f_X6_go_14 m g (nI k) = some (1, g') ∧ MI I k e n q kd vl f w ip rg g' := by
  intro j
  induction j with
  | zero =>
    intro m p g hG hp hm hM
    have heb := hG.eb
    obtain ⟨m, rfl⟩ : ∃ k, m = k + 1 := ⟨m - 1, by omega⟩
    obtain rfl : p = k := by omega
    have m10 : g 0 10 = nI p := by rw [hM.2.2.2.1.r10]; exact (SS_ok I (LG q kd vl n) f p).2.1
    rw [f_X6_go_14, m10, if_pos (nI_le (Nat.le_refl _) (by omega))]
    exact ⟨g, rfl, hM⟩
  | succ j ih =>
    intro m p g hG hp hm hM
    have heb := hG.eb
    obtain ⟨m, rfl⟩ : ∃ k, m = k + 1 := ⟨m - 1, by omega⟩
    have m10 : g 0 10 = nI p := by rw [hM.2.2.2.1.r10]; exact (SS_ok I (LG q kd vl n) f p).2.1
    rw [f_X6_go_14, m10, if_neg (nI_ge (by omega) (by omega))]
    obtain ⟨g1, a1, a2⟩ := again_model hG (by omega) hM
    rw [a1, bV_pos rfl]
    exact ih m (p + 1) g1 ⟨hG.1, by omega, hG.2.2⟩ (by omega) (by omega) a2
theorem on_class {h : hp} {e : Nat} (he : e < 2 ^ 30) (h5 : h 0 5 = 1) (h8 : h 0 8 = nI e) (x : Int32) : (∃ k, k ≤ e ∧ x = nI k ∧ f_X5_isOnRecord h x = some 1) ∨ ((x < 0 ∨ nI e < x) ∧ f_X5_isOnRecord h x = some 0) := by
  unfold f_X5_isOnRecord
  rw [h5, h8, if_neg (show ¬ (1 : Int32) = 0 by decide)]
  by_cases c1 : x < 0
  · exact Or.inr ⟨Or.inl c1, by rw [if_pos c1]⟩
  · rw [if_neg c1]
    by_cases c2 : nI e < x
    · exact Or.inr ⟨Or.inr c2, by rw [if_pos c2]⟩
    · rw [if_neg c2]
      obtain ⟨k, hk, rfl⟩ := nI_of c1
      exact Or.inl ⟨k, by rcases Nat.lt_or_ge e k with z | z
                          · exact absurd (nI_lt z hk) c2
                          · exact z, rfl, rfl⟩
theorem on_model {g : hp} {e : Nat} (h9 : g 0 9 = 1) (h11 : g 0 11 = nI e) (x : Int32) : f_X6_isThere g x = some (if x < 0 ∨ nI e < x then 0 else 1) := by
  unfold f_X6_isThere
  rw [h9, h11, if_neg (show ¬ (1 : Int32) = 0 by decide)]
  by_cases c1 : x < 0
  · rw [if_pos c1, if_pos (Or.inl c1)]
  · rw [if_neg c1]
    by_cases c2 : nI e < x
    · rw [if_pos c2, if_pos (Or.inr c2)]
    · rw [if_neg c2, if_neg (fun z => z.elim c1 c2)]
theorem go_rec {h g : hp} (hR : REC h g) (x : Int32) : ∃ r h' g', f_X5_go h x = some (r, h') ∧ f_X6_go g x = some (r, g') ∧ REC h' g' := by
  have hR0 := hR
  obtain ⟨I, p, e, n, q, kd, vl, f, w, ip, rg, hG, hw, hrg, hK, hM⟩ := hR
  have heb := hG.eb
  obtain ⟨⟨k0, k5, k6, k7, k8⟩, kf, kl, hME, hKE, hSN⟩ := id hK
  obtain ⟨⟨m0, m9, m11, m15, m17, m21, m22⟩, m16, ⟨m1, m5, m8, m10⟩, hMEm, hKEm⟩ := id hM
  have hI := hG.1
  have hI0 : 0 < I := by omega
  unfold f_X5_go f_X6_go
  rw [on_model m9 m11]
  rcases on_class (show e < 2 ^ 30 by omega) k5 k8 x with ⟨k, hk, rfl, e1⟩ | ⟨hx, e1⟩
  · rw [e1, bR_pos rfl, bR_pos rfl, if_neg (show ¬ (1 : Int32) = 0 by decide), if_neg (show ¬ (nI k < 0 ∨ nI e < nI k) from fun z => z.elim (nI_pos (by omega)) (nI_nlt hk (by omega))), if_neg (show ¬ (1 : Int32) = 0 by decide)]
    -- the reference
    obtain ⟨g1, a1, a2, a3, a4, a5⟩ := rewind_model (g := g) (f := f) m1
    have hM0 : MI I 0 e n q kd vl f w ip rg g1 := by
      refine ⟨⟨?_, ?_, ?_, ?_, ?_, ?_, ?_⟩, by rw [a4, cb_0]; rfl, ⟨?_, ?_, ?_, ?_⟩, a5, fun i hi hlt => ?_⟩
      · rw [a3 0 (by decide) (by decide) (by decide) (by decide) (by decide) (by decide)]; exact m0
      · rw [a3 9 (by decide) (by decide) (by decide) (by decide) (by decide) (by decide)]; exact m9
      · rw [a3 11 (by decide) (by decide) (by decide) (by decide) (by decide) (by decide)]; exact m11
      · rw [a3 15 (by decide) (by decide) (by decide) (by decide) (by decide) (by decide)]; exact m15
      · rw [a3 17 (by decide) (by decide) (by decide) (by decide) (by decide) (by decide)]; exact m17
      · rw [a3 21 (by decide) (by decide) (by decide) (by decide) (by decide) (by decide)]; exact m21
      · rw [a3 22 (by decide) (by decide) (by decide) (by decide) (by decide) (by decide)]; exact m22
      · rw [a2 1 (by decide) (by decide) (by decide) (by decide)]; exact m1
      · rw [a2 5 (by decide) (by decide) (by decide) (by decide), a2 6 (by decide) (by decide) (by decide) (by decide), a2 7 (by decide) (by decide) (by decide) (by decide)]; exact m5
      · rw [a2 8 (by decide) (by decide) (by decide) (by decide)]; exact m8
      · rw [a2 10 (by decide) (by decide) (by decide) (by decide)]; exact m10
      · exact absurd hlt (nI_pos (by omega))
    obtain ⟨g2, b1, b2⟩ := go_mloop hk k 20000 0 g1 ⟨hI, Nat.zero_le _, hG.2.2⟩ (by omega) (by omega) hM0
    rw [a1, bV_pos rfl, b1]
    -- the class
    have hdm := Nat.div_add_mod k I
    have hml := Nat.mod_lt k hI0
    have hkK : k / I ≤ e / I := Nat.div_le_div_right hk
    have hkI : k / I * I + k % I = k := by rw [Nat.mul_comm]; exact hdm
    obtain ⟨h1, c1, c2, ⟨c3, c4, c5, c6, c7⟩, c8, c9⟩ := restore_class (k := k / I) hI0 (show e / I < 40 from Nat.lt_of_succ_le hG.2.2.1) hkK hG.2.2.2.2.2.2.2 hSN
    rw [k0, gd_pos (nI_n0 hI0 (by omega)), show nI k / nI I = nI (k / I) from pk_div (by omega) hI0 (by omega)]
    simp only [gl]
    rw [c1, bV_pos rfl, c2 0 (by decide) (by decide) (by decide), k0, pk_mul]
    have hKs : KI I (k / I * I) e n q kd vl f w ip rg (u2 h1 0 7 (nI (k / I * I))) := by
      have row : ∀ i, i ≠ 0 → i ≠ 1 → i ≠ 2 → i ≠ 3 → (u2 h1 0 7 (nI (k / I * I))) i = h i := fun i i0 i1 i2 i3 => by rw [u2_ne _ _ _ _ _ i0, c2 i i1 i2 i3]
      have row0 : ∀ j, j ≠ 7 → (u2 h1 0 7 (nI (k / I * I))) 0 j = h 0 j := fun j hj => by simp [u2_app, hj]; rw [c2 0 (by decide) (by decide) (by decide)]
      refine ⟨⟨?_, ?_, ?_, by simp [u2_app], ?_⟩, ?_, ?_, ME.of ?_ ?_ ?_ ?_ ?_ (fun j hj => ?_) (fun j hj => ?_) (fun j hj => ?_), fun i hi hlt => ?_, SNP_rows hSN (fun i hi => row i (by omega) (by omega) (by omega) (by omega))⟩
      · rw [row0 0 (by decide)]; exact k0
      · rw [row0 5 (by decide)]; exact k5
      · rw [row0 6 (by decide)]; exact k6
      · rw [row0 8 (by decide)]; exact k8
      · rw [row 5 (by decide) (by decide) (by decide) (by decide), row 6 (by decide) (by decide) (by decide) (by decide)]; exact kf
      · rw [row 7 (by decide) (by decide) (by decide) (by decide), row 8 (by decide) (by decide) (by decide) (by decide), row 9 (by decide) (by decide) (by decide) (by decide), row 10 (by decide) (by decide) (by decide) (by decide)]; exact kl
      · simp [kv, u2_app]; exact c3
      · simp [kv, u2_app]; exact c4
      · simp [kv, u2_app]; exact c5
      · simp [kv, u2_app]; exact c6
      · rw [(SS_ok I (LG q kd vl n) f (k / I * I)).2.1]; simp [kv, u2_app]
      · simp [kv, u2_app]; exact c9 j hj
      · simp [kv, u2_app]; exact c8 j hj
      · rw [SS_9 hI0]; simp [kv, u2_app, c7, bitv]
      · have hh := hKE i hi hlt
        rw [hh]
        simp [kv, u2_app]
        rw [c2 4 (by decide) (by decide) (by decide)]
    have hsub : nI k - nI (k / I * I) = nI (k % I) := by
      rw [pk_sub (by omega)]
      exact congrArg nI (by omega)
    rw [hsub]
    obtain ⟨h2, d1, d2⟩ := go_kloop (nI k) (nI (k / I)) (k % I) 1000 (k / I * I) _ ⟨hI, by omega, hG.2.2⟩ (by omega) (by omega) hKs
    rw [hkI] at d2
    exact ⟨1, h2, g2, d1, rfl, I, k, e, n, q, kd, vl, f, w, ip, rg, ⟨hI, hk, hG.2.2⟩, hw, hrg, d2, b2⟩
  · rw [e1, bR_pos rfl, bR_pos rfl, if_pos rfl, if_pos hx, if_pos rfl]
    exact ⟨_, _, _, rfl, rfl, hR0⟩
theorem eq_go {h g : hp} (hV : INV h g) (x : Int32) : ∃ r h' g', f_X5_go h x = some (r, h') ∧ f_X6_go g x = some (r, g') ∧ INV h' g' := by
  rcases hV with hR | hN
  · obtain ⟨r, h', g', a1, a2, a3⟩ := go_rec hR x
    exact ⟨r, h', g', a1, a2, Or.inl a3⟩
  · refine ⟨0, h, g, ?_, ?_, Or.inr hN⟩
    · unfold f_X5_go f_X5_isOnRecord
      rw [hN.2.1, if_pos rfl, bR_pos rfl, if_pos rfl]
    · unfold f_X6_go f_X6_isThere
      rw [hN.2.2.1, if_pos rfl, bR_pos rfl, if_pos rfl]
theorem eq_far {h g : hp} (hV : INV h g) (x : Int32) : ∃ r, f_X5_far h x = some r ∧ f_X6_far g x = some r := by
  unfold f_X5_far f_X6_far
  rcases hV with hR | hN
  · obtain ⟨I, p, e, n, q, kd, vl, f, w, ip, rg, hG, hw, hrg, hK, hM⟩ := hR
    have heb := hG.eb
    obtain ⟨⟨k0, k5, k6, k7, k8⟩, -⟩ := hK
    obtain ⟨⟨m0, m9, m11, -⟩, -⟩ := hM
    have hI := hG.1
    rw [on_model m9 m11, k0, m0]
    rcases on_class (show e < 2 ^ 30 by omega) k5 k8 x with ⟨k, hk, rfl, e1⟩ | ⟨hx, e1⟩
    · rw [e1, bR_pos rfl, bR_pos rfl, if_neg (show ¬ (1 : Int32) = 0 by decide), if_neg (show ¬ (nI k < 0 ∨ nI e < nI k) from fun z => z.elim (nI_pos (by omega)) (nI_nlt hk (by omega))), if_neg (show ¬ (1 : Int32) = 0 by decide), gd_pos (nI_n0 (by omega) (by omega))]
      exact ⟨_, rfl, rfl⟩
    · rw [e1, bR_pos rfl, bR_pos rfl, if_pos rfl, if_pos hx, if_pos rfl]
      exact ⟨_, rfl, rfl⟩
  · unfold f_X5_isOnRecord f_X6_isThere
    rw [hN.2.1, hN.2.2.1, if_pos rfl, if_pos rfl, bR_pos rfl, bR_pos rfl, if_pos rfl, if_pos rfl]
    exact ⟨_, rfl, rfl⟩
end PU
