/-! THE PURE SIDE, 22: cut and start -/
section PU
theorem lkp_cut {q : Nat → Nat} {n p : Nat} (hi : inc q n) : ∀ k, k < p → lkp q (cb q n p) k = lkp q n k := by
  intro k hk
  have hl := cb_le q p n
  cases e : lkp q n k with
  | none =>
    apply lkp_none
    intro i hi2 z
    have := lkp_of (inc_le hi (Nat.le_refl n)) (show i < n by omega)
    rw [z, e] at this
    cases this
  | some i =>
    obtain ⟨a, b⟩ := lkp_some e
    have h1 : i < cb q n p := (cb_iff hi i a).mpr (by omega)
    have := lkp_of (inc_le hi hl) h1
    rw [b] at this
    exact this
theorem LG_cut {q : Nat → Nat} {kd vl : Nat → Int32} {n p : Nat} (hi : inc q n) : ∀ k, k < p → LG q kd vl (cb q n p) k = LG q kd vl n k := by
  intro k hk
  unfold LG
  rw [lkp_cut hi k hk]
theorem eq_cut {h g : hp} (hV : INV h g) : ∃ r h' g', f_X5_cut h = some (r, h') ∧ f_X6_cut g = some (r, g') ∧ INV h' g' := by
  unfold f_X5_cut f_X6_cut
  rcases hV with hR | hN
  · obtain ⟨I, p, e, n, q, kd, vl, f, w, ip, rg, hG, hw, hrg, ⟨⟨k0, k5, k6, k7, k8⟩, kf, ⟨k73, kl⟩, hME, hKE, hSN⟩, ⟨⟨m0, m9, m11, m15, m17, m21, m22⟩, m16, ⟨m1, m5, m8, m10⟩, hMEm, hKEm⟩⟩ := hR
    have heb := hG.eb
    obtain ⟨hI, hpe, hKb, hn, hinc, hqe, hkd, hFP⟩ := hG
    have hI0 : 0 < I := by omega
    have hcl := cb_le q p n
    have g10 : g 0 10 = nI p := by rw [hMEm.r10]; exact (SS_ok I (LG q kd vl n) f p).2.1
    have hcb : f_X1_countBefore (u2 h 0 8 (nI p)) (nI p) = some (nI (cb q n p)) := cb_class hn (by rw [u2_ne _ _ _ _ _ (by decide)]; exact k73) (fun i hi => by rw [u2_ne _ _ _ _ _ (by decide)]; exact (kl i hi).1) (fun i hi => by have := hqe i hi; omega) (by omega) hinc
    have hL := LG_cut (kd := kd) (vl := vl) (p := p) hinc
    have hKp : p / I ≤ e / I := Nat.div_le_div_right hpe
    have hFm : FPs I (LG q kd vl n) f (p / I + 1) ≤ FPs I (LG q kd vl n) f (e / I + 1) := sm_mono _ (Nat.succ_le_succ hKp)
    have hF : ∀ k, k ≤ p / I + 1 → FPs I (LG q kd vl (cb q n p)) f k = FPs I (LG q kd vl n) f k := fun k hk => FPs_congr hI0 hk hL
    have hSS : ∀ z, z ≤ p → SS I (LG q kd vl (cb q n p)) f z = SS I (LG q kd vl n) f z := fun z hz => SS_congr (fun y hy => hL y (by omega))
    obtain ⟨kp1, kp2⟩ := Sq_kept (I := I) (L := LG q kd vl n) (ini_vld f) rfl rfl hpe (show e < 2 ^ 30 by omega)
    rw [k5, m9, if_neg (show ¬ (1 : Int32) = 0 by decide), if_neg (show ¬ (1 : Int32) = 0 by decide), k7, k0, m0, g10, m16, hcb, bR_pos rfl, gd_pos (nI_n0 hI0 (by omega)), gd_pos (nI_n0 hI0 (by omega)), show nI p / nI I = nI (p / I) from pk_div (by omega) hI0 (by omega)]
    generalize hKK : p / I = K at *
    have hK40 : K < 40 := by
      generalize e / I = E at *
      omega
    obtain ⟨⟨b1, b2, b3, b4, b5, b6⟩, b7, b8⟩ := hSN.2 K hKp
    unfold f_X4_keepFirst
    rw [nI_1, nI_pred, gd_pos (nI_in hK40 (by decide)), nI_clamp (by omega)]
    unfold f_X3_pageCount
    rw [bR_pos rfl, bV_pos rfl, bitCount_ok]
    have rw15 : (u2 (u2 (u2 h 0 8 (nI p)) 7 3 (nI (cb q n p))) 11 3 (nI (K + 1))) (K + 15) = h (K + 15) := by rw [u2_ne _ _ _ _ _ (by omega), u2_ne _ _ _ _ _ (by omega), u2_ne _ _ _ _ _ (by omega)]
    have rw15' : (u2 (u2 h 0 8 (nI p)) 7 3 (nI (cb q n p))) (K + 15) = h (K + 15) := by rw [u2_ne _ _ _ _ _ (by omega), u2_ne _ _ _ _ _ (by omega)]
    have hpg : cnt (bitv (h (K + 15) 5)) 32 = pgs I (LG q kd vl n) f K := cnt_congr 32 b5
    rw [rw15, rw15', hpg, b6, nI_add, show FPs I (LG q kd vl n) f K + pgs I (LG q kd vl n) f K = FPs I (LG q kd vl n) f (K + 1) from rfl]
    have row : ∀ i, i ≠ 0 → i ≠ 7 → i ≠ 11 → (u2 (u2 (u2 (u2 h 0 8 (nI p)) 7 3 (nI (cb q n p))) 11 3 (nI (K + 1))) 11 4 (nI (FPs I (LG q kd vl n) f (K + 1)))) i = h i := fun i i0 i7 i11 => by rw [u2_ne _ _ _ _ _ i11, u2_ne _ _ _ _ _ i11, u2_ne _ _ _ _ _ i7, u2_ne _ _ _ _ _ i0]
    have hkv : kv (u2 (u2 (u2 (u2 h 0 8 (nI p)) 7 3 (nI (cb q n p))) 11 3 (nI (K + 1))) 11 4 (nI (FPs I (LG q kd vl n) f (K + 1)))) = kv h := kv_rows (row 1 (by decide) (by decide) (by decide)) (row 2 (by decide) (by decide) (by decide)) (row 3 (by decide) (by decide) (by decide)) (row 4 (by decide) (by decide) (by decide)) (by simp [u2_app])
    refine ⟨nI (cb q n p), u2 (u2 (u2 (u2 h 0 8 (nI p)) 7 3 (nI (cb q n p))) 11 3 (nI (K + 1))) 11 4 (nI (FPs I (LG q kd vl n) f (K + 1))), _, by simp [u2_app], rfl, Or.inl ⟨I, p, p, cb q n p, q, kd, vl, f, w, ip, rg, ⟨hI, Nat.le_refl _, by rw [hKK]; omega, by omega, inc_le hinc hcl, fun i hi => (cb_iff hinc i (by omega)).mp hi, fun i hi => hkd i (by omega), by rw [hKK, hF _ (Nat.le_refl _)]; omega⟩, hw, hrg, ⟨?_, ?_, ⟨?_, fun i hi => ?_⟩, ?_, ?_, ?_⟩, ⟨?_, ?_, ⟨?_, ?_, ?_, ?_⟩, ?_, ?_⟩⟩⟩
    · simp [u2_app]; exact ⟨k0, k5, k6, k7⟩
    · rw [row 5 (by decide) (by decide) (by decide), row 6 (by decide) (by decide) (by decide)]; exact kf
    · simp [u2_app]
    · rw [row 8 (by decide) (by decide) (by decide), row 9 (by decide) (by decide) (by decide), row 10 (by decide) (by decide) (by decide)]; exact kl i (by omega)
    · rw [hkv, hSS p (Nat.le_refl _)]; exact hME
    · rw [hkv, hSS p (Nat.le_refl _)]
      intro i hi hlt
      exact (kp1 i hi hlt).trans (hKE i hi (kp2 i hi hlt))
    · rw [hKK]
      have hs2 : SNP (u2 (u2 (u2 (u2 h 0 8 (nI p)) 7 3 (nI (cb q n p))) 11 3 (nI (K + 1))) 11 4 (nI (FPs I (LG q kd vl n) f (K + 1)))) I (LG q kd vl n) f K := by
        refine ⟨⟨by simp [u2_app], by simp [u2_app], by rw [row 12 (by decide) (by decide) (by decide)]; exact hSN.1.2.2⟩, fun k hk => ?_⟩
        rw [row (k + 15) (by omega) (by omega) (by omega), row (k + 55) (by omega) (by omega) (by omega), row 13 (by decide) (by decide) (by decide)]
        exact hSN.2 k (Nat.le_trans hk hKp)
      exact SNP_congr hI0 hKK hL hs2
    · simp [u2_app, hKK]; exact ⟨m0, m9, m21, m22⟩
    · rw [cb_all (inc_le hinc hcl) (fun i hi => (cb_iff hinc i (by omega)).mp hi)]; simp [u2_app]; exact m16
    · simpa [u2_app] using m1
    · intro i hi
      simpa [u2_app] using m5 i (by omega)
    · intro k hk
      rw [hKK] at hk
      rw [pgs_congr (L := LG q kd vl (cb q n p)) (L' := LG q kd vl n) hI0 (fun z hz => hL z (by have := Nat.mul_le_mul_right I (Nat.lt_succ_iff.mp hk); have := mulK hKK; omega))]
      have := m8 k (Nat.lt_of_lt_of_le hk (Nat.succ_le_succ hKp))
      simpa [u2_app] using this
    · simpa [u2_app] using m10
    · rw [hSS p (Nat.le_refl _)]
      refine ME.of ?_ ?_ ?_ ?_ ?_ (fun k hk => ?_) (fun k hk => ?_) (fun k hk => ?_)
      · simp [u2_app]; exact hMEm.r4
      · simp [u2_app]; exact hMEm.r5
      · simp [u2_app]; exact hMEm.r6
      · simp [u2_app]; exact hMEm.r8
      · simp [u2_app]; exact hMEm.r10
      · simp [u2_app]; exact hMEm.mem hk
      · simp [u2_app]; exact hMEm.reg hk
      · simp [u2_app]; exact hMEm.wr hk
    · rw [hSS p (Nat.le_refl _)]
      intro i hi hlt
      simp [u2_app]; exact hKEm i hi hlt
  · rw [hN.2.1, hN.2.2.1, if_pos rfl, if_pos rfl]
    exact ⟨_, _, _, rfl, rfl, Or.inr hN⟩
end PU
