/-! THE PURE SIDE, 21: poke, stop, ring, give, cut, start -/
section PU
theorem eq_poke {h g : hp} (hV : INV h g) (x v : Int32) : ∃ r h' g', f_X5_poke h x v = some (r, h') ∧ f_X6_poke g x v = some (r, g') ∧ INV h' g' := by
  unfold f_X5_poke f_X6_poke
  rcases hV with hR | hN
  · obtain ⟨e1, e2⟩ := rec_on hR
    rw [e1, e2, if_neg (show ¬ (1 : Int32) = 0 by decide), if_neg (show ¬ (1 : Int32) = 0 by decide)]
    exact ⟨_, _, _, rfl, rfl, Or.inl hR⟩
  · rw [hN.2.1, hN.2.2.1, if_pos rfl, if_pos rfl]
    rcases isPlace_ok x with ⟨e1, e2⟩ | ⟨k, hk, rfl, e1, e2⟩
    · rw [if_pos e1, if_pos e2]; exact ⟨_, _, _, rfl, rfl, Or.inr hN⟩
    · rw [if_neg e1, if_neg e2, gd_pos (nI_in hk (by decide)), gd_pos (nI_in hk (by decide)), nI_clamp (by omega)]
      refine ⟨_, _, _, rfl, rfl, Or.inr ?_⟩
      obtain ⟨⟨I, hI, a1, a2⟩, a3, a4, a5, a6, a7, m, hm, a8⟩ := hN
      refine ⟨⟨I, hI, by rw [u2_ne _ _ _ _ _ (by decide)]; exact a1, by rw [u2_ne _ _ _ _ _ (by decide)]; exact a2⟩, by rw [u2_ne _ _ _ _ _ (by decide)]; exact a3, by rw [u2_ne _ _ _ _ _ (by decide)]; exact a4, ?_, ?_, ?_, m, hm, by rw [u2_ne _ _ _ _ _ (by decide)]; exact a8⟩
      · rw [kv_mem]; exact a5.u _ _ _
      · intro i hi hlt
        rw [u2_ne _ _ _ _ _ (by decide)] at hlt ⊢
        rw [kv_mem, u2_ne _ _ _ _ _ (by decide)]
        exact a6 i hi hlt
      · obtain ⟨b1, b2, b3, b4⟩ := a7
        exact ⟨by rw [u2_ne _ _ _ _ _ (by decide)]; exact b1, by rw [u2_ne _ _ _ _ _ (by decide)]; exact b2, by rw [u2_ne _ _ _ _ _ (by decide)]; exact b3, by rw [u2_ne _ _ _ _ _ (by decide)]; exact b4⟩
theorem inv_I {h g : hp} (hV : INV h g) : ∃ I : Nat, (2 ≤ I ∧ I ≤ 64) ∧ h 0 0 = nI I ∧ g 0 0 = nI I := by
  rcases hV with hR | hN
  · obtain ⟨I, p, e, n, q, kd, vl, f, w, ip, rg, hG, hw, hrg, hK, hM⟩ := hR
    exact ⟨I, hG.1, hK.1.1, hM.1.1⟩
  · exact hN.1
theorem eq_stop {h g : hp} (hV : INV h g) : ∃ h' g', f_X5_stop h = some h' ∧ f_X6_stop g = some g' ∧ INV h' g' := by
  obtain ⟨hM, hk, hv, m, hm, h8⟩ := mview hV
  obtain ⟨I, hI, a1, a2⟩ := inv_I hV
  refine ⟨_, _, rfl, rfl, Or.inr ⟨⟨I, hI, by simp [u2_app]; exact a1, by simp [u2_app]; exact a2⟩, by simp [u2_app], by simp [u2_app], ?_, ?_, ?_, m, hm, by simp [u2_app]; exact h8⟩⟩
  · refine ME.of ?_ ?_ ?_ ?_ ?_ (fun k hk => ?_) (fun k hk => ?_) (fun k hk => ?_)
    · simp [kv, u2_app]; exact hM.r4
    · simp [kv, u2_app]; exact hM.r5
    · simp [kv, u2_app]; exact hM.r6
    · simp [kv, u2_app]; exact hM.r8
    · simp [kv, u2_app]; exact hM.r10
    · simp [kv, u2_app]; exact hM.mem hk
    · simp [kv, u2_app]; exact hM.reg hk
    · simp [kv, u2_app]; exact hM.wr hk
  · intro i hi hlt
    simp [u2_app] at hlt
    simp [kv, u2_app]
    exact (hk i hi hlt).symm
  · obtain ⟨b1, b2, b3, b4⟩ := hv
    exact ⟨by simpa [u2_app] using b1, by simpa [u2_app] using b2, by simpa [u2_app] using b3, by simpa [u2_app] using b4⟩
theorem eq_ring {h g : hp} (hV : INV h g) : ∃ r h' g', f_X5_ring h = some (r, h') ∧ f_X6_ring g = some (r, g') ∧ INV h' g' := by
  unfold f_X5_ring f_X6_ring
  rcases hV with hR | hN
  · obtain ⟨I, p, e, n, q, kd, vl, f, w, ip, rg, hG, hw, hrg, ⟨⟨k0, k5, k6, k7, k8⟩, kf, kl, hME, hKE, hSN⟩, ⟨⟨m0, m9, m11, m15, m17, m21, m22⟩, m16, ⟨m1, m5, m8, m10⟩, hMEm, hKEm⟩⟩ := hR
    rw [k5, m9, if_neg (show ¬ (1 : Int32) = 0 by decide), if_neg (show ¬ (1 : Int32) = 0 by decide), gd_pos (Or.inr rfl)]
    have hkv : kv (u2 h 0 6 1) = kv h := kv_rows (u2_ne _ _ _ _ _ (by decide)) (u2_ne _ _ _ _ _ (by decide)) (u2_ne _ _ _ _ _ (by decide)) (u2_ne _ _ _ _ _ (by decide)) (by simp [u2_app])
    refine ⟨_, _, _, rfl, rfl, Or.inl ⟨I, p, e, n, q, kd, vl, f, w, ip, 1, hG, hw, Or.inr rfl, ⟨?_, ?_, ?_, by rw [hkv]; exact hME, by rw [hkv]; exact hKE, SNP_rows hSN (fun i hi => u2_ne _ _ _ _ _ (by omega))⟩, ⟨?_, ?_, ?_, ?_, ?_⟩⟩⟩
    · simp [u2_app]; exact ⟨k0, k5, k7, k8⟩
    · rw [u2_ne _ _ _ _ 5 (by decide), u2_ne _ _ _ _ 6 (by decide)]; exact kf
    · rw [u2_ne _ _ _ _ 7 (by decide), u2_ne _ _ _ _ 8 (by decide), u2_ne _ _ _ _ 9 (by decide), u2_ne _ _ _ _ 10 (by decide)]; exact kl
    · simp [u2_app]; exact ⟨m0, m9, m11, m15, m17, m21⟩
    · simp [u2_app]; exact m16
    · rw [u2_ne _ _ _ _ 1 (by decide), u2_ne _ _ _ _ 5 (by decide), u2_ne _ _ _ _ 6 (by decide), u2_ne _ _ _ _ 7 (by decide), u2_ne _ _ _ _ 8 (by decide), u2_ne _ _ _ _ 10 (by decide)]; exact ⟨m1, m5, m8, m10⟩
    · refine ME.of ?_ ?_ ?_ ?_ ?_ (fun k hk => ?_) (fun k hk => ?_) (fun k hk => ?_)
      · simp [u2_app]; exact hMEm.r4
      · simp [u2_app]; exact hMEm.r5
      · simp [u2_app]; exact hMEm.r6
      · simp [u2_app]; exact hMEm.r8
      · simp [u2_app]; exact hMEm.r10
      · simp [u2_app]; exact hMEm.mem hk
      · simp [u2_app]; exact hMEm.reg hk
      · simp [u2_app]; exact hMEm.wr hk
    · intro i hi hlt
      rw [u2_ne _ _ _ _ 4 (by decide)]; exact hKEm i hi hlt
  · rw [hN.2.1, hN.2.2.1, if_pos rfl, if_pos rfl, gd_pos (Or.inl rfl)]
    exact ⟨_, _, _, rfl, rfl, Or.inr hN⟩
theorem eq_give {h g : hp} (hV : INV h g) (x : Int32) : ∃ r h' g', f_X5_give h x = some (r, h') ∧ f_X6_give g x = some (r, g') ∧ INV h' g' := by
  unfold f_X5_give f_X6_give
  rcases hV with hR | hN
  · have hR0 := hR
    obtain ⟨I, p, e, n, q, kd, vl, f, w, ip, rg, hG, hw, hrg, ⟨⟨k0, k5, k6, k7, k8⟩, ⟨fs, hfs, kf1, kf2, kf3⟩, kl, hME, hKE, hSN⟩, ⟨⟨m0, m9, m11, m15, m17, m21, m22⟩, m16, ⟨m1, m5, m8, m10⟩, hMEm, hKEm⟩⟩ := hR
    rw [k5, m9, if_neg (show ¬ (1 : Int32) = 0 by decide), if_neg (show ¬ (1 : Int32) = 0 by decide), kf2, m21]
    by_cases c : w < 100
    · rw [if_pos (show nI w < 100 from nI_lt (b := 100) c (by decide)), if_neg (show ¬ nI w = 100 from fun z => by have := (nI_eq (b := 100) (by omega) (by decide)).mp z; omega), gd_pos (nI_in c (by decide)), nI_clamp (by omega), nI_1]
      unfold f_X0_add
      rw [kf1, kf2, nI_add, show nI (fs + w) - nI (fs + w) / 100 * 100 = nI ((fs + w) % 100) from pk_rem (d := 100) (by omega) (by decide) (by decide), gd_pos (nI_in (Nat.mod_lt _ (by decide)) (by decide)), nI_clamp (by omega), nI_1, bV_pos rfl]
      have hkv : kv (u2 (u2 h 6 ((fs + w) % 100) x) 5 2 (nI (w + 1))) = kv h := kv_rows (by rw [u2_ne _ _ _ _ _ (by decide), u2_ne _ _ _ _ _ (by decide)]) (by rw [u2_ne _ _ _ _ _ (by decide), u2_ne _ _ _ _ _ (by decide)]) (by rw [u2_ne _ _ _ _ _ (by decide), u2_ne _ _ _ _ _ (by decide)]) (by rw [u2_ne _ _ _ _ _ (by decide), u2_ne _ _ _ _ _ (by decide)]) (by simp [u2_app])
      refine ⟨nI (w + 1), u2 (u2 h 6 ((fs + w) % 100) x) 5 2 (nI (w + 1)), _, by simp [u2_app], rfl, Or.inl ⟨I, p, e, n, q, kd, vl, f, w + 1, va_up ip w x, rg, hG, by omega, hrg, ⟨?_, ⟨fs, hfs, ?_, ?_, fun i hi => ?_⟩, ?_, by rw [hkv]; exact hME, by rw [hkv]; exact hKE, SNP_rows hSN (fun i hi => by rw [u2_ne _ _ _ _ _ (by omega), u2_ne _ _ _ _ _ (by omega)])⟩, ⟨?_, ?_, ⟨?_, ?_, ?_, fun i hi => ?_⟩, ?_, ?_⟩⟩⟩
      · simp [u2_app]; exact ⟨k0, k5, k6, k7, k8⟩
      · simp [u2_app]; exact kf1
      · simp [u2_app]
      · by_cases ci : i = w
        · subst ci; rw [vu_at]; simp [u2_app]
        · rw [vu_ne _ _ _ ci]
          have hne : (fs + i) % 100 ≠ (fs + w) % 100 := by omega
          simp [u2_app, hne]
          exact kf3 i (by omega)
      · rw [u2_ne _ _ _ _ 7 (by decide), u2_ne _ _ _ _ 8 (by decide), u2_ne _ _ _ _ 9 (by decide), u2_ne _ _ _ _ 10 (by decide), u2_ne _ _ _ _ 7 (by decide), u2_ne _ _ _ _ 8 (by decide), u2_ne _ _ _ _ 9 (by decide), u2_ne _ _ _ _ 10 (by decide)]; exact kl
      · simp [u2_app]; exact ⟨m0, m9, m11, m15, m17, m22⟩
      · simp [u2_app]; exact m16
      · simpa [u2_app] using m1
      · simpa [u2_app] using m5
      · simpa [u2_app] using m8
      · by_cases ci : i = w
        · subst ci; rw [vu_at]; simp [u2_app]
        · rw [vu_ne _ _ _ ci]; simp [u2_app, ci]; exact m10 i (by omega)
      · refine ME.of ?_ ?_ ?_ ?_ ?_ (fun k hk => ?_) (fun k hk => ?_) (fun k hk => ?_)
        · simp [u2_app]; exact hMEm.r4
        · simp [u2_app]; exact hMEm.r5
        · simp [u2_app]; exact hMEm.r6
        · simp [u2_app]; exact hMEm.r8
        · simp [u2_app]; exact hMEm.r10
        · simp [u2_app]; exact hMEm.mem hk
        · simp [u2_app]; exact hMEm.reg hk
        · simp [u2_app]; exact hMEm.wr hk
      · intro i hi hlt
        simp [u2_app]; exact hKEm i hi hlt
    · obtain rfl : w = 100 := by omega
      rw [if_neg (by decide), if_pos (by decide)]
      exact ⟨_, _, _, rfl, rfl, Or.inl hR0⟩
  · rw [hN.2.1, hN.2.2.1, if_pos rfl, if_pos rfl]
    exact ⟨_, _, _, rfl, rfl, Or.inr hN⟩
end PU
