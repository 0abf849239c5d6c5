/-! THE PURE SIDE, 14: the class's live step and the record behind it -/
section PU
theorem cnt_lt {r : Nat → Int32} {j n : Nat} (hj : j < n) (hr : r j ≠ 0) : cnt r j < cnt r n := by
  have h1 : cnt r (j + 1) ≤ cnt r n := cnt_mono r (by omega)
  have h2 : cnt r (j + 1) = cnt r j + 1 := by
    show cnt r j + (if r j = 0 then 0 else 1) = _
    rw [if_neg hr]
  omega
theorem mulK {I K e : Nat} (hK : e / I = K) : K * I ≤ e := by
  rw [← hK]; exact Nat.div_mul_le_self e I
theorem SNP_congr {h : hp} {I : Nat} {L L' : Nat → Option (Int32 × Int32)} {f : Nat → Int32} {K e : Nat} (hI : 0 < I) (hK : e / I = K) (hL : ∀ k, k < e → L' k = L k) (hs : SNP h I L f K) : SNP h I L' f K := by
  obtain ⟨⟨a1, a2, a3⟩, a4⟩ := hs
  have hm : ∀ k, k ≤ K → k * I ≤ e := fun k hk => Nat.le_trans (Nat.mul_le_mul_right I hk) (mulK hK)
  have hF : ∀ k, k ≤ K + 1 → FPs I L' f k = FPs I L f k := fun k hk => FPs_congr hI (by rw [hK]; exact hk) hL
  refine ⟨⟨a1, by rw [hF _ (Nat.le_refl _)]; exact a2, a3⟩, fun k hk => ?_⟩
  have hk' := hm k hk
  rw [SS_congr (L := L') (L' := L) (fun q hq => hL q (by omega)), flg_congr (L := L') (L' := L) hI (fun q hq => hL q (by omega)), hF k (by omega)]
  exact a4 k hk
theorem SNP_hit {h h' : hp} {I : Nat} {L L' : Nat → Option (Int32 × Int32)} {f : Nat → Int32} {K e : Nat} {ev : Option (Int32 × Int32)} (hI : 0 < I) (hK : e / I = K) (hK1 : K + 1 < 40) (hL : ∀ k, k < e → L' k = L k) (hLe : L' e = ev) (hit : (e + 1) % I = 0) (hs : SNP h I L f K)
    (g1 : ∀ i, 11 ≤ i → i ≠ 11 → i ≠ 13 → i ≠ K + 1 + 15 → i ≠ K + 1 + 55 → h' i = h i) (g2 : h' 11 3 = nI (K + 1 + 1)) (g3 : h' 11 4 = nI (FPs I L f (K + 1) + AA ev (SS I L f e)))
    (g4 : h' (K + 1 + 15) 1 = act ev (SS I L f e) 0 4 ∧ h' (K + 1 + 15) 2 = act ev (SS I L f e) 0 5 ∧ h' (K + 1 + 15) 3 = act ev (SS I L f e) 0 6 ∧ h' (K + 1 + 15) 4 = act ev (SS I L f e) 0 8 ∧ (∀ j, j < 32 → bitv (h' (K + 1 + 15) 5) j = act ev (SS I L f e) 9 j) ∧ h' (K + 1 + 15) 6 = nI (FPs I L f (K + 1)))
    (g5 : ∀ i, i < 8 → h' (K + 1 + 55) i = act ev (SS I L f e) 3 i) (g6 : ∀ x, x < FPs I L f (K + 1) * 16 → h' 13 x = h 13 x) (g7 : ∀ i, i < 32 → act ev (SS I L f e) 9 i ≠ 0 → ∀ t, t < 16 → h' 13 ((FPs I L f (K + 1) + cnt (act ev (SS I L f e) 9) i) * 16 + t) = act ev (SS I L f e) 2 (i * 16 + t)) : SNP h' I L' f (K + 1) := by
  obtain ⟨d1, d2⟩ := div_hit hI hit
  rw [hK] at d1 d2
  obtain ⟨⟨a1, a2, a3⟩, a4⟩ := SNP_congr hI hK hL hs
  have hF : FPs I L' f (K + 1) = FPs I L f (K + 1) := FPs_congr hI (by rw [hK]; exact Nat.le_refl _) hL
  have hSe : SS I L' f e = SS I L f e := SS_congr hL
  have hfl : flg I L' f (K + 1) = act ev (SS I L f e) 9 := by
    funext j
    unfold flg
    rw [if_neg (Nat.succ_ne_zero _), d2]
    show act (L' e) (SS I L' f e) 9 j = _
    rw [hLe, hSe]
  have hSS : SS I L' f ((K + 1) * I) = pas I e (act ev (SS I L f e)) := by
    rw [d2, SS_succ, hLe, hSe]
  refine ⟨⟨g2, ?_, ?_⟩, fun k hk => ?_⟩
  · rw [g3]
    show _ = nI (FPs I L' f (K + 1) + pgs I L' f (K + 1))
    rw [hF]
    unfold pgs
    rw [hfl]
    rfl
  · rw [g1 12 (by omega) (by omega) (by omega) (by omega) (by omega)]; exact a3
  · rcases Nat.lt_or_ge k (K + 1) with z | z
    · obtain ⟨b1, b2, b3⟩ := a4 k (by omega)
      rw [g1 (k + 15) (by omega) (by omega) (by omega) (by omega) (by omega), g1 (k + 55) (by omega) (by omega) (by omega) (by omega) (by omega)]
      refine ⟨b1, b2, fun j hj hr t ht => ?_⟩
      have hlt := cnt_lt (r := flg I L' f k) hj hr
      have hm : FPs I L' f (k + 1) ≤ FPs I L' f (K + 1) := sm_mono _ (by omega)
      have he : FPs I L' f (k + 1) = FPs I L' f k + cnt (flg I L' f k) 32 := rfl
      rw [g6 _ (by rw [← hF]; omega)]
      exact b3 j hj hr t ht
    · obtain rfl : k = K + 1 := by omega
      rw [hSS, hfl, hF]
      refine ⟨⟨?_, ?_, ?_, ?_, g4.2.2.2.2.1, g4.2.2.2.2.2⟩, fun i hi => ?_, fun j hj hr t ht => ?_⟩
      · rw [pas_0 (by decide)]; exact g4.1
      · rw [pas_0 (by decide)]; exact g4.2.1
      · rw [pas_0 (by decide)]; exact g4.2.2.1
      · rw [pas_0 (by decide)]; exact g4.2.2.2.1
      · rw [pas_row (by decide) (by decide)]; exact g5 i hi
      · rw [pas_row (by decide) (by decide)]; exact g7 j hj hr t ht
set_option maxHeartbeats 1000000 in
theorem KI_live {h : hp} {I e n' : Nat} {L : Nat → Option (Int32 × Int32)} {q' : Nat → Nat} {kd' vl' f : Nat → Int32} {w' : Nat} {ip' : Nat → Int32} {rg' : Int32} {ev : Option (Int32 × Int32)} {x1 x2 : Int32} (hI : 2 ≤ I ∧ I ≤ 64) (hK : e / I + 1 ≤ 40) (he : e < 2560) (hL : ∀ k, k < e → LG q' kd' vl' n' k = L k) (hLe : LG q' kd' vl' n' e = ev)
    (hev : (ev = none ∧ x1 = 0 ∧ x2 = 0) ∨ ev = some (x1, x2)) (hR : ¬ RMF I e (FPs I L f (e / I + 1)) (AA ev (SS I L f e)))
    (k0 : h 0 0 = nI I ∧ h 0 5 = 1 ∧ h 0 6 = rg' ∧ h 0 7 = nI e ∧ h 0 8 = nI e) (kf : ∃ fs, fs < 100 ∧ h 5 1 = nI fs ∧ h 5 2 = nI w' ∧ ∀ i, i < w' → h 6 ((fs + i) % 100) = ip' i)
    (kl : h 7 3 = nI n' ∧ ∀ i, i < n' → h 8 i = nI (q' i) ∧ h 9 i = kd' i ∧ h 10 i = vl' i) (hME : ME (kv h) (SS I L f e)) (hKE : KE (SS I L f e) (kv h)) (hSN : SNP h I L f (e / I)) :
    ∃ h', f_X5_advance h x1 x2 = some h' ∧ KI I (e + 1) (e + 1) n' q' kd' vl' f w' ip' rg' h' := by
  obtain ⟨k0, k5, k6, k7, k8⟩ := k0
  obtain ⟨fs, hfs, kf1, kf2, kf3⟩ := kf
  obtain ⟨k73, kl⟩ := kl
  obtain ⟨hv, h10, m, hm, h8⟩ := SS_ok I L f e
  obtain ⟨h', e1, e2, e3, ⟨e4a, e4b⟩, e5, e6, e7, e8⟩ := adv_live (K := e / I) (ev := ev) (x1 := x1) (x2 := x2) hI rfl hK (by omega) k0 k7 k8 hME hv (show m < 2 ^ 30 by omega) h8 hKE hev hSN.1.1 hSN.1.2.1 hR
  have hSe : SS I (LG q' kd' vl' n') f (e + 1) = pas I e (act ev (SS I L f e)) := by
    rw [SS_succ, hLe, SS_congr hL]
  refine ⟨h', e1, ⟨?_, ?_, ?_, e4a, e4b⟩, ⟨fs, hfs, ?_, ?_, ?_⟩, ⟨?_, ?_⟩, by rw [hSe]; exact e5, by rw [hSe]; exact e6, ?_⟩
  · rw [e3 0 (by decide) (by decide)]; exact k0
  · rw [e3 5 (by decide) (by decide)]; exact k5
  · rw [e3 6 (by decide) (by decide)]; exact k6
  · rw [e2 5 (by decide) (by decide)]; exact kf1
  · rw [e2 5 (by decide) (by decide)]; exact kf2
  · rw [e2 6 (by decide) (by decide)]; exact kf3
  · rw [e2 7 (by decide) (by decide)]; exact k73
  · rw [e2 8 (by decide) (by decide), e2 9 (by decide) (by decide), e2 10 (by decide) (by decide)]; exact kl
  · by_cases c : (e + 1) % I = 0
    · obtain ⟨d1, d2⟩ := div_hit (show 0 < I by omega) c
      obtain ⟨g1, g2, g3, g4, g5, g6, g7⟩ := e8 c
      rw [d1]
      have hR' : ¬ (e / I + 1 = 40) := fun z => hR ⟨c, Or.inl z⟩
      generalize hKK : e / I = K at *
      exact SNP_hit (show 0 < I by omega) hKK (by omega) hL hLe c hSN g1 g2 g3 g4 g5 g6 g7
    · rw [div_miss (show 0 < I by omega) c]
      exact SNP_congr (show 0 < I by omega) rfl hL (SNP_rows hSN (fun i hi => e7 c i hi))
theorem logadd_class {h : hp} {n e : Nat} {q : Nat → Nat} {kd vl : Nat → Int32} {k v : Int32} (hn : n < 300) (h73 : h 7 3 = nI n) (hl : ∀ i, i < n → h 8 i = nI (q i) ∧ h 9 i = kd i ∧ h 10 i = vl i) :
    ∃ h', f_X1_add h (nI e) k v = some h' ∧ (∀ i, i ≠ 7 → i ≠ 8 → i ≠ 9 → i ≠ 10 → h' i = h i) ∧ h' 7 3 = nI (n + 1) ∧ ∀ i, i < n + 1 → h' 8 i = nI (va_up q n e i) ∧ h' 9 i = va_up kd n k i ∧ h' 10 i = va_up vl n v i := by
  unfold f_X1_add
  rw [h73, gd_pos (nI_in hn (by decide)), gd_pos (nI_in hn (by decide)), gd_pos (nI_in hn (by decide)), nI_clamp (by omega), nI_1]
  refine ⟨_, rfl, fun i a7 a8 a9 a10 => ?_, by simp [u2_app], fun i hi => ?_⟩
  · rw [u2_ne _ _ _ _ _ a7, u2_ne _ _ _ _ _ a10, u2_ne _ _ _ _ _ a9, u2_ne _ _ _ _ _ a8]
  · by_cases c : i = n
    · subst c
      rw [vu_at, vu_at, vu_at]
      simp [u2_app]
    · rw [vu_ne _ _ _ c, vu_ne _ _ _ c, vu_ne _ _ _ c]
      obtain ⟨b1, b2, b3⟩ := hl i (by omega)
      simp [u2_app, c]
      exact ⟨b1, b2, b3⟩
theorem kd_up {kd : Nat → Int32} {n : Nat} {k : Int32} (h : ∀ i, i < n → kd i = 1 ∨ kd i = 2) (hk : k = 1 ∨ k = 2) : ∀ i, i < n + 1 → va_up kd n k i = 1 ∨ va_up kd n k i = 2 := by
  intro i hi
  by_cases c : i = n
  · subst c; rw [vu_at]; exact hk
  · rw [vu_ne _ _ _ c]; exact h i (by omega)
theorem q_up {q : Nat → Nat} {n e : Nat} (h : ∀ i, i < n → q i < e) : ∀ i, i < n + 1 → va_up q n e i < e + 1 := by
  intro i hi
  by_cases c : i = n
  · subst c; rw [vu_at]; omega
  · rw [vu_ne _ _ _ c]; have := h i (by omega); omega
end PU
