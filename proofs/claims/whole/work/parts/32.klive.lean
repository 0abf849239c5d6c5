/-! THE PURE SIDE, 13: the class's live step -/
section PU
theorem ME_lkd {c d : hp} (h : ME c d) (hv : vld c) (rg : Int32) (w : Nat) : lkd c rg w = lkd d rg w := by
  unfold lkd
  rw [h.r6, ME_xw h hv]
theorem nextOp_class {h : hp} (hv : vld (kv h)) : f_X2_nextOp h = some (mop (mxw (kv h))) := by
  unfold f_X2_nextOp
  rw [gd_pos (show ¬ (h 1 3 < 0 ∨ 512 ≤ (h 1 3).toNatClampNeg) from hv.pc)]
  rfl
theorem nlk_class {h : hp} {w : Nat} (hv : vld (kv h)) (hw : w ≤ 100) (h52 : h 5 2 = nI w) : f_X5_nextLiveKind h = some (lkd (kv h) (h 0 6) w) := by
  have e19 : f_X5_nextLiveKind_19 h = some (if mop (mxw (kv h)) = 0 then -1 else if mop (mxw (kv h)) = 12 then (if w = 0 then -1 else 1) else 0) := by
    unfold f_X5_nextLiveKind_19
    rw [nextOp_class hv, bR_pos rfl, h52]
    by_cases c1 : mop (mxw (kv h)) = 0
    · rw [if_pos c1, if_pos c1]
    · rw [if_neg c1, if_neg c1]
      by_cases c2 : mop (mxw (kv h)) = 12
      · rw [if_pos c2, if_pos c2]
        by_cases c3 : w = 0
        · subst c3; rw [if_pos (by decide), if_pos rfl]
        · rw [if_neg (nI_nle (by omega) (by omega)), if_neg c3]
      · rw [if_neg c2, if_neg c2]
  unfold f_X5_nextLiveKind lkd
  rw [e19]
  by_cases c1 : h 0 6 = 0
  · rw [if_pos c1, if_pos (Or.inl c1)]
  · rw [if_neg c1]
    by_cases c2 : h 1 5 = 0
    · rw [if_pos c2, if_pos (show h 0 6 = 0 ∨ kv h 0 6 = 0 from Or.inr c2)]
    · rw [if_neg c2, if_neg (show ¬ (h 0 6 = 0 ∨ kv h 0 6 = 0) from fun z => z.elim c1 c2)]
theorem target_class (h : hp) (x : Int32) : f_X2_target h x = some (mtg (kv h) x) := by
  unfold f_X2_target
  rw [show f_X2_fieldB x = mfb x from rfl, gd_pos (show ¬ (mfb x < 0 ∨ 8 ≤ (mfb x).toNatClampNeg) from g7 _)]
  rfl
theorem wwn_class {h : hp} (hv : vld (kv h)) (inp : Int32) : ∃ W, f_X2_writtenWithNext h = some W ∧ bitv W = exi (kv h) inp 9 := by
  unfold f_X2_writtenWithNext
  rw [nextOp_class hv, bR_pos rfl]
  by_cases c : mop (mxw (kv h)) = 8
  · rw [if_pos c, gd_pos (show ¬ (h 1 3 < 0 ∨ 512 ≤ (h 1 3).toNatClampNeg) from hv.pc), show h 3 (h 1 3).toNatClampNeg = mxw (kv h) from rfl, target_class, bR_pos rfl]
    refine ⟨_, rfl, ?_⟩
    funext k
    rw [exi_9, if_pos c]
    obtain ⟨j, hj, e⟩ := e511 (kv h 3 (mfb (mxw (kv h))).toNatClampNeg + (mxw (kv h)).toInt8.toInt32)
    have e' : mtg (kv h) (mxw (kv h)) = nI j := e
    rw [e', f_X2_pageBit, nI_d16 (by omega), nI_clamp (by omega), bitv_or _ _ (by omega)]
    rfl
  · rw [if_neg c]
    refine ⟨_, rfl, ?_⟩
    funext k
    rw [exi_9, if_neg c]
    rfl
theorem room_class {h : hp} {K F : Nat} (W : Int32) (hK : K + 1 ≤ 40) (hF : F ≤ 300) (h3 : h 11 3 = nI (K + 1)) (h4 : h 11 4 = nI F) : f_X5_isFull_58 h W = some (if K + 1 = 40 ∨ 300 < F + cnt (bitv W) 32 then 1 else 0) := by
  unfold f_X5_isFull_58 f_X4_hasRoomFor
  have hc := cnt_le (bitv W) 32
  rw [h3, h4, bitCount_ok, nI_add]
  by_cases c1 : K + 1 = 40
  · rw [if_pos (show (40 : Int32) ≤ nI (K + 1) from nI_le (a := 40) (by omega) (by omega)), bR_pos rfl, if_pos (by decide), if_pos (Or.inl c1)]
  · rw [if_neg (show ¬ (40 : Int32) ≤ nI (K + 1) from nI_ge (b := 40) (by omega) (by decide))]
    by_cases c2 : 300 < F + cnt (bitv W) 32
    · rw [if_pos (show (300 : Int32) < nI (F + cnt (bitv W) 32) from nI_lt (a := 300) c2 (by omega)), bR_pos rfl, if_pos (by decide), if_pos (Or.inr c2)]
    · rw [if_neg (show ¬ (300 : Int32) < nI (F + cnt (bitv W) 32) from nI_nlt (a := 300) (by omega) (by decide)), bR_pos rfl, if_neg (by decide), if_neg (fun z => z.elim c1 c2)]
theorem full_class {h : hp} {I e n F : Nat} {k : Int32} (v : Int32) (hk : k = 0 ∨ k = 1 ∨ k = 2) (hv : vld (kv h)) (hI : 2 ≤ I ∧ I ≤ 64) (hK : e / I + 1 ≤ 40) (he : e < 2 ^ 30) (hn : n ≤ 300) (hF : F ≤ 300) (h0 : h 0 0 = nI I) (h8 : h 0 8 = nI e) (h73 : h 7 3 = nI n) (h3 : h 11 3 = nI (e / I + 1)) (h4 : h 11 4 = nI F) :
    ∃ r, f_X5_isFull h k = some r ∧ (r = 0 ↔ ¬ ((k ≠ 0 ∧ n = 300) ∨ RMF I e F (AA (evk k v) (kv h)))) := by
  have e19 : ∃ r, f_X5_isFull_19 h k = some r ∧ (r = 0 ↔ ¬ RMF I e F (AA (evk k v) (kv h))) := by
    unfold f_X5_isFull_19
    rw [h0, h8, gd_pos (nI_n0 (by omega) (by omega)), nI_1]
    by_cases c : (e + 1) % I = 0
    · rw [if_pos (by rw [rem_nI (by omega) (by omega) (by omega)]; exact c)]
      have fin : ∀ W, bitv W = act (evk k v) (kv h) 9 → ∃ r, f_X5_isFull_58 h W = some r ∧ (r = 0 ↔ ¬ RMF I e F (AA (evk k v) (kv h))) := by
        intro W hW
        rw [room_class W hK hF h3 h4, hW]
        refine ⟨_, rfl, ?_⟩
        show (if e / I + 1 = 40 ∨ 300 < F + AA (evk k v) (kv h) then (1 : Int32) else 0) = 0 ↔ _
        by_cases z : e / I + 1 = 40 ∨ 300 < F + AA (evk k v) (kv h)
        · rw [if_pos z]
          exact ⟨fun y => absurd y (by decide), fun y => absurd ⟨c, z⟩ y⟩
        · rw [if_neg z]
          exact ⟨fun _ y => z y.2, fun _ => rfl⟩
      by_cases c2 : k = 2
      · rw [if_pos c2]
        simp only [gl]
        refine fin (h 1 7) ?_
        rw [c2]
        funext j
        show bitv (h 1 7) j = rng (kv h) 9 j
        simp [rng, u2_app]
        rfl
      · rw [if_neg c2]
        rcases hk with rfl | rfl | rfl
        · obtain ⟨W, e1, e2⟩ := wwn_class hv 0
          rw [e1, bR_pos rfl]
          exact fin W e2
        · obtain ⟨W, e1, e2⟩ := wwn_class hv v
          rw [e1, bR_pos rfl]
          exact fin W e2
        · exact absurd rfl c2
    · rw [if_neg (by rw [rem_nI (by omega) (by omega) (by omega)]; exact c)]
      exact ⟨0, rfl, fun _ z => c z.1, fun _ => rfl⟩
  obtain ⟨r, g1, g2⟩ := e19
  unfold f_X5_isFull
  rw [h73]
  by_cases c0 : k = 0
  · rw [if_pos c0]
    exact ⟨r, g1, g2.trans ⟨fun z y => y.elim (fun w => w.1 c0) z, fun z y => z (Or.inr y)⟩⟩
  · rw [if_neg c0]
    by_cases c3 : n < 300
    · rw [if_pos (show nI n < 300 from nI_lt (b := 300) c3 (by decide))]
      exact ⟨r, g1, g2.trans ⟨fun z y => y.elim (fun w => by omega) z, fun z y => z (Or.inr y)⟩⟩
    · rw [if_neg (show ¬ nI n < 300 from nI_nlt (b := 300) (by omega) (by omega))]
      exact ⟨1, rfl, fun z => absurd z (by decide), fun z => absurd (Or.inl ⟨c0, by omega⟩) z⟩
set_option maxHeartbeats 1000000 in
/-- the class goes on live -/
theorem adv_live {h c : hp} {I e F m K : Nat} {ev : Option (Int32 × Int32)} {x1 x2 : Int32} (hI : 2 ≤ I ∧ I ≤ 64) (hKe : e / I = K) (hK : K + 1 ≤ 40) (he : e < 2 ^ 29) (h0 : h 0 0 = nI I) (h7 : h 0 7 = nI e) (h8 : h 0 8 = nI e) (hME : ME (kv h) c) (hv : vld c) (hm : m < 2 ^ 30) (hs : c 0 8 = nI m) (hKE : KE c (kv h))
    (hev : (ev = none ∧ x1 = 0 ∧ x2 = 0) ∨ ev = some (x1, x2)) (h3 : h 11 3 = nI (K + 1)) (h4 : h 11 4 = nI F) (hR : ¬ RMF I e F (AA ev c)) :
    ∃ h', f_X5_advance h x1 x2 = some h' ∧ (∀ i, 5 ≤ i → i < 11 → h' i = h i) ∧ (∀ k, k ≠ 7 → k ≠ 8 → h' 0 k = h 0 k) ∧ (h' 0 7 = nI (e + 1) ∧ h' 0 8 = nI (e + 1)) ∧ ME (kv h') (pas I e (act ev c)) ∧ KE (pas I e (act ev c)) (kv h') ∧
      (¬ (e + 1) % I = 0 → ∀ i, 11 ≤ i → h' i = h i) ∧
      ((e + 1) % I = 0 → (∀ i, 11 ≤ i → i ≠ 11 → i ≠ 13 → i ≠ K + 1 + 15 → i ≠ K + 1 + 55 → h' i = h i) ∧ h' 11 3 = nI (K + 1 + 1) ∧ h' 11 4 = nI (F + AA ev c) ∧
        (h' (K + 1 + 15) 1 = act ev c 0 4 ∧ h' (K + 1 + 15) 2 = act ev c 0 5 ∧ h' (K + 1 + 15) 3 = act ev c 0 6 ∧ h' (K + 1 + 15) 4 = act ev c 0 8 ∧ (∀ j, j < 32 → bitv (h' (K + 1 + 15) 5) j = act ev c 9 j) ∧ h' (K + 1 + 15) 6 = nI F) ∧ (∀ i, i < 8 → h' (K + 1 + 55) i = act ev c 3 i) ∧
        (∀ x, x < F * 16 → h' 13 x = h 13 x) ∧ ∀ i, i < 32 → act ev c 9 i ≠ 0 → ∀ t, t < 16 → h' 13 ((F + cnt (act ev c 9) i) * 16 + t) = act ev c 2 (i * 16 + t)) := by
  obtain ⟨h1, e1, e2, e3⟩ := adv1 hME hv hs hm x1 x2
  rw [act_kv hev] at e2
  have r0 := e3 0 (by decide) (by decide) (by decide) (by decide)
  have hMa : ME (kv h1) (act ev c) := by rw [e2]; exact ME_sy (ME_act (ME_sy hME) hv ev)
  have hKa : KE (act ev c) (kv h1) := by rw [e2]; exact KE_act (ME_sy hME) hKE hv hm hs ev
  have hva : vld (act ev c) := (act_stepped hv ev).1
  have hcn : ∀ i, i ≤ 32 → cnt (bitv (h1 1 7)) i = cnt (act ev c 9) i := fun i hi => cnt_congr i (fun k hk => hMa.wr (show k < 32 by omega))
  rw [e1]
  unfold f_X5_advance_27
  rw [show h1 0 7 = nI e by rw [r0]; exact h7, show h1 0 8 = nI e by rw [r0]; exact h8, show h1 0 0 = nI I by rw [r0]; exact h0, nI_1, if_neg (nI_ge (by omega) (by omega)), gd_pos (nI_n0 (by omega) (by omega))]
  by_cases cc : (e + 1) % I = 0
  · rw [if_pos (by rw [rem_nI (by omega) (by omega) (by omega)]; exact cc)]
    have hR' : ¬ (K + 1 = 40 ∨ 300 < F + AA ev c) := fun z => hR ⟨cc, by rw [hKe]; exact z⟩
    have q1 : (u2 (u2 h1 0 7 (nI (e + 1))) 0 8 (nI (e + 1))) 1 = h1 1 := by rw [u2_ne _ _ _ _ _ (by decide), u2_ne _ _ _ _ _ (by decide)]
    obtain ⟨h2, g1, g2, g3, g4, ⟨g5a, g5b, g5c, g5d, g5e, g5f⟩, g6, g7, g8⟩ := add_class (h := u2 (u2 h1 0 7 (nI (e + 1))) 0 8 (nI (e + 1))) (K := K + 1) (F := F) (by omega)
      (by rw [u2_ne _ _ _ _ _ (by decide), u2_ne _ _ _ _ _ (by decide), e3 11 (by decide) (by decide) (by decide) (by decide)]; exact h3)
      (by rw [u2_ne _ _ _ _ _ (by decide), u2_ne _ _ _ _ _ (by decide), e3 11 (by decide) (by decide) (by decide) (by decide)]; exact h4)
      (by rw [q1, hcn 32 (Nat.le_refl _)]; show F + AA ev c ≤ 300; omega)
      (by rw [q1]; have := hva.2.2.1; rw [← hMa.r6] at this; exact this)
    rw [q1] at g4 g5a g5b g5c g5d g5e g8
    rw [hcn 32 (Nat.le_refl _)] at g4
    have low : ∀ i, i ≠ 0 → i < 11 → h2 i = h1 i := fun i hi0 hi => by rw [g2 i (by omega) (by omega) (by omega) (by omega), u2_ne _ _ _ _ _ hi0, u2_ne _ _ _ _ _ hi0]
    have row0 : h2 0 = (u2 (u2 h1 0 7 (nI (e + 1))) 0 8 (nI (e + 1))) 0 := g2 0 (by omega) (by omega) (by omega) (by omega)
    rw [g1, bV_pos rfl]
    refine ⟨_, rfl, fun i a1 a2 => ?_, fun k b7 b8 => ?_, ⟨?_, ?_⟩, ME.of ?_ ?_ ?_ ?_ ?_ (fun k hk => ?_) (fun k hk => ?_) (fun k hk => ?_), fun k hk hlt => ?_, fun z => absurd cc z, fun _ => ⟨fun i a1 a2 a3 a4 a5 => ?_, ?_, ?_, ⟨?_, ?_, ?_, ?_, ?_, ?_⟩, fun i hi => ?_, fun x hx => ?_, fun i hi hr t ht => ?_⟩⟩
    · rw [u2_ne _ _ _ _ _ (by omega), low i (by omega) a2, e3 i (by omega) (by omega) (by omega) (by omega)]
    · rw [u2_ne _ _ _ _ _ (by decide), row0, ← r0]; simp [u2_app, b7, b8]
    · rw [u2_ne _ _ _ _ _ (by decide), row0]; simp [u2_app]
    · rw [u2_ne _ _ _ _ _ (by decide), row0]; simp [u2_app]
    · rw [pas_0 (by decide), ← hMa.r4]; simp [kv, u2_app, low 1 (by decide) (by decide)]
    · rw [pas_0 (by decide), ← hMa.r5]; simp [kv, u2_app, low 1 (by decide) (by decide)]
    · rw [pas_0 (by decide), ← hMa.r6]; simp [kv, u2_app, low 1 (by decide) (by decide)]
    · rw [pas_0 (by decide), ← hMa.r8]; simp [kv, u2_app, low 1 (by decide) (by decide)]
    · rw [pas_10]; simp [kv, u2_app, row0]
    · rw [pas_row (by decide) (by decide), ← hMa.mem hk]; simp [kv, u2_app, low 3 (by decide) (by decide)]
    · rw [pas_row (by decide) (by decide), ← hMa.reg hk]; simp [kv, u2_app, low 2 (by decide) (by decide)]
    · rw [pas_9, if_pos cc]; simp [kv, u2_app, bitv]
    · rw [pas_0 (by decide)] at hlt
      rw [pas_row (by decide) (by decide), hKa k hk hlt]
      simp [kv, u2_app, low 4 (by decide) (by decide)]
    · rw [u2_ne _ _ _ _ _ (by omega), g2 i a2 a3 a4 a5, u2_ne _ _ _ _ _ (by omega), u2_ne _ _ _ _ _ (by omega), e3 i (by omega) (by omega) (by omega) (by omega)]
    · rw [u2_ne _ _ _ _ _ (by decide)]; exact g3
    · rw [u2_ne _ _ _ _ _ (by decide)]; exact g4
    · rw [u2_ne _ _ _ _ _ (by omega), g5a]; exact hMa.r4
    · rw [u2_ne _ _ _ _ _ (by omega), g5b]; exact hMa.r5
    · rw [u2_ne _ _ _ _ _ (by omega), g5c]; exact hMa.r6
    · rw [u2_ne _ _ _ _ _ (by omega), g5d]; exact hMa.r8
    · intro j hj
      rw [u2_ne _ _ _ _ _ (by omega), g5e]; exact hMa.wr hj
    · rw [u2_ne _ _ _ _ _ (by omega)]; exact g5f
    · rw [u2_ne _ _ _ _ _ (by omega), g6 i hi, u2_ne _ _ _ _ _ (by decide), u2_ne _ _ _ _ _ (by decide)]; exact hMa.reg hi
    · rw [u2_ne _ _ _ _ _ (by decide), g7 x hx, u2_ne _ _ _ _ _ (by decide), u2_ne _ _ _ _ _ (by decide), e3 13 (by decide) (by decide) (by decide) (by decide)]
    · rw [u2_ne _ _ _ _ _ (by decide), ← hcn i (by omega), g8 i hi (by rw [show bitv (h1 1 7) i = act ev c 9 i from hMa.wr hi]; exact hr) t ht, u2_ne _ _ _ _ _ (by decide), u2_ne _ _ _ _ _ (by decide)]
      exact hMa.mem (by omega)
  · rw [if_neg (by rw [rem_nI (by omega) (by omega) (by omega)]; exact cc)]
    refine ⟨_, rfl, fun i a1 a2 => ?_, fun k b7 b8 => ?_, ⟨?_, ?_⟩, ME.of ?_ ?_ ?_ ?_ ?_ (fun k hk => ?_) (fun k hk => ?_) (fun k hk => ?_), fun k hk hlt => ?_, fun _ i hi => ?_, fun z => absurd z cc⟩
    · rw [u2_ne _ _ _ _ _ (by omega), u2_ne _ _ _ _ _ (by omega), e3 i (by omega) (by omega) (by omega) (by omega)]
    · rw [← r0]; simp [u2_app, b7, b8]
    · simp [u2_app]
    · simp [u2_app]
    · rw [pas_0 (by decide), ← hMa.r4]; simp [kv, u2_app]
    · rw [pas_0 (by decide), ← hMa.r5]; simp [kv, u2_app]
    · rw [pas_0 (by decide), ← hMa.r6]; simp [kv, u2_app]
    · rw [pas_0 (by decide), ← hMa.r8]; simp [kv, u2_app]
    · rw [pas_10]; simp [kv, u2_app]
    · rw [pas_row (by decide) (by decide), ← hMa.mem hk]; simp [kv, u2_app]
    · rw [pas_row (by decide) (by decide), ← hMa.reg hk]; simp [kv, u2_app]
    · rw [pas_9, if_neg cc, ← hMa.wr hk]; simp [kv, u2_app]
    · rw [pas_0 (by decide)] at hlt
      rw [pas_row (by decide) (by decide), hKa k hk hlt]
      simp [kv, u2_app]
    · rw [u2_ne _ _ _ _ _ (by omega), u2_ne _ _ _ _ _ (by omega), e3 i (by omega) (by omega) (by omega) (by omega)]
end PU
