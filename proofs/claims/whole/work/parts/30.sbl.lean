/-! THE PURE SIDE, 11: the class's step by the log -/
section PU
theorem kv_ring (h : hp) : kv (u2 (u2 (u2 h 1 4 (h 1 3)) 1 3 8) 1 5 0) = rng (kv h) := by
  rw [kv_open, kv_pc, kv_back]
  rfl
theorem kv_rows {h h' : hp} (e1 : h' 1 = h 1) (e2 : h' 2 = h 2) (e3 : h' 3 = h 3) (e4 : h' 4 = h 4) (e0 : h' 0 7 = h 0 7) : kv h' = kv h := by
  funext r k
  unfold kv
  rw [e1, e2, e3, e4, e0]
theorem adv1 {h c : hp} {m : Nat} (hME : ME (kv h) c) (hv : vld c) (h8 : c 0 8 = nI m) (hm : m < 2 ^ 30) (x1 x2 : Int32) :
    ∃ h1, f_X5_advance h x1 x2 = f_X5_advance_27 h1 ∧ kv h1 = (if x1 = 2 then rng (kv h) else exi (kv h) x2) ∧ ∀ i, i ≠ 1 → i ≠ 2 → i ≠ 3 → i ≠ 4 → h1 i = h i := by
  unfold f_X5_advance
  by_cases c1 : x1 = 2
  · rw [if_pos c1, if_pos c1]
    refine ⟨_, by rw [show f_X2_takeRing h = some _ from rfl, bV_pos rfl], kv_ring h, fun i a1 _ _ _ => ?_⟩
    rw [u2_ne _ _ _ _ _ a1, u2_ne _ _ _ _ _ a1, u2_ne _ _ _ _ _ a1]
  · rw [if_neg c1, if_neg c1]
    have hvk : vld (kv h) := ME_vld (ME_sy hME) hv
    obtain ⟨h1, e1, e2, e3⟩ := ins_class h x2 hvk.pc (sent_ok hME h8 hm)
    rw [e1, bV_pos rfl]
    exact ⟨h1, rfl, e2, e3⟩
theorem adv27_log {h : hp} {I p e : Nat} (hI : 2 ≤ I ∧ I ≤ 64) (h0 : h 0 0 = nI I) (h7 : h 0 7 = nI p) (h8 : h 0 8 = nI e) (hpe : p + 1 ≤ e) (he : e < 2 ^ 30) :
    ∃ h', f_X5_advance_27 h = some h' ∧ (∀ i, i ≠ 0 → i ≠ 1 → h' i = h i) ∧ (∀ k, k ≠ 7 → h' 0 k = h 0 k) ∧ h' 0 7 = nI (p + 1) ∧ ME (kv h') (pas I p (kv h)) ∧ kv h' 4 = kv h 4 := by
  unfold f_X5_advance_27
  rw [h7, h8, h0, nI_1, if_pos (nI_le hpe (by omega)), gd_pos (nI_n0 (by omega) (by omega))]
  by_cases c : (p + 1) % I = 0
  · rw [if_pos (by rw [rem_nI (by omega) (by omega) (by omega)]; exact c)]
    refine ⟨_, rfl, fun i a0 a1 => ?_, fun k hk => ?_, ?_, ME.of ?_ ?_ ?_ ?_ ?_ (fun k hk => ?_) (fun k hk => ?_) (fun k hk => ?_), ?_⟩
    · rw [u2_ne _ _ _ _ _ a1, u2_ne _ _ _ _ _ a0]
    · simp [u2_app, hk]
    · simp [u2_app]
    · rw [pas_0 (by decide)]; simp [kv, u2_app]
    · rw [pas_0 (by decide)]; simp [kv, u2_app]
    · rw [pas_0 (by decide)]; simp [kv, u2_app]
    · rw [pas_0 (by decide)]; simp [kv, u2_app]
    · rw [pas_10]; simp [kv, u2_app]
    · rw [pas_row (by decide) (by decide)]; simp [kv, u2_app]
    · rw [pas_row (by decide) (by decide)]; simp [kv, u2_app]
    · rw [pas_9, if_pos c]; simp [kv, u2_app, bitv]
    · funext k; simp [kv, u2_app]
  · rw [if_neg (by rw [rem_nI (by omega) (by omega) (by omega)]; exact c)]
    refine ⟨_, rfl, fun i a0 a1 => ?_, fun k hk => ?_, ?_, ?_, ?_⟩
    · rw [u2_ne _ _ _ _ _ a0]
    · simp [u2_app, hk]
    · simp [u2_app]
    · rw [kv_now]
      unfold pas
      rw [if_neg c]
      exact ME_rf _
    · funext k; simp [kv, u2_app]
theorem act_kv {h : hp} {ev : Option (Int32 × Int32)} {x1 x2 : Int32} (hev : (ev = none ∧ x1 = 0 ∧ x2 = 0) ∨ ev = some (x1, x2)) : (if x1 = 2 then rng (kv h) else exi (kv h) x2) = act ev (kv h) := by
  rcases hev with ⟨rfl, rfl, rfl⟩ | rfl
  · rw [if_neg (by decide)]; rfl
  · rfl
set_option maxHeartbeats 1000000 in
/-- the class's step by the log -/
theorem sbl_class {I p e n : Nat} {q : Nat → Nat} {kd vl f : Nat → Int32} {w : Nat} {ip : Nat → Int32} {rg : Int32} {h : hp} (hG : GOK I p e n q kd vl f) (hp : p < e) (hM : KI I p e n q kd vl f w ip rg h) :
    ∃ h', f_X5_stepByLog h = some h' ∧ KI I (p + 1) e n q kd vl f w ip rg h' := by
  have heb := hG.eb
  obtain ⟨hI, hpe, hK, hn, hinc, hqe, hkd, hFP⟩ := hG
  obtain ⟨⟨k0, k5, k6, k7, k8⟩, ⟨fs, hfs, kf1, kf2, kf3⟩, ⟨k73, kl⟩, hME, hKE, hSN⟩ := hM
  obtain ⟨hv, h10, m, hm, h8⟩ := SS_ok I (LG q kd vl n) f p
  have hq0 : ∀ i, i < n → q i < 2 ^ 30 := fun i hi => by have := hqe i hi; omega
  have hLG := LG_at (kd := kd) (vl := vl) (p := p) hinc
  have hcl := cb_le q p n
  -- kept outs at this position
  obtain ⟨kp1, kp2⟩ := Sq_kept (I := I) (L := LG q kd vl n) (ini_vld f) rfl rfl (show p ≤ e by omega) (show e < 2 ^ 30 by omega)
  obtain ⟨kq1, kq2⟩ := Sq_kept (I := I) (L := LG q kd vl n) (ini_vld f) rfl rfl (show p + 1 ≤ e by omega) (show e < 2 ^ 30 by omega)
  have hKEp : KE (SS I (LG q kd vl n) f p) (kv h) := fun k hk hlt => (kp1 k hk hlt).trans (hKE k hk (kp2 k hk hlt))
  have fin : ∀ (x1 x2 : Int32), ((LG q kd vl n p = none ∧ x1 = 0 ∧ x2 = 0) ∨ LG q kd vl n p = some (x1, x2)) → ∃ h', f_X5_advance h x1 x2 = some h' ∧ KI I (p + 1) e n q kd vl f w ip rg h' := by
    intro x1 x2 hev
    obtain ⟨h1, e1, e2, e3⟩ := adv1 hME hv h8 (show m < 2 ^ 30 by omega) x1 x2
    rw [act_kv hev] at e2
    have r0 := e3 0 (by decide) (by decide) (by decide) (by decide)
    obtain ⟨h2, g1, g2, g3, g4, g5, g6⟩ := adv27_log (h := h1) (p := p) (e := e) hI (by rw [r0]; exact k0) (by rw [r0]; exact k7) (by rw [r0]; exact k8) (by omega) (by omega)
    have row : ∀ i, 5 ≤ i → h2 i = h i := fun i hi => by rw [g2 i (by omega) (by omega), e3 i (by omega) (by omega) (by omega) (by omega)]
    have hMa := ME_act (ME_sy hME) hv (LG q kd vl n p)
    have hKa := KE_act (ME_sy hME) hKEp hv (show m < 2 ^ 30 by omega) h8 (LG q kd vl n p)
    have hst := act_stepped (ME_vld (ME_sy hME) hv) (LG q kd vl n p)
    refine ⟨h2, by rw [e1, g1], ⟨?_, ?_, ?_, g4, ?_⟩, ⟨fs, hfs, ?_, ?_, ?_⟩, ⟨?_, ?_⟩, ?_, ?_, SNP_rows hSN (fun i hi => row i (by omega))⟩
    · rw [g3 0 (by decide), r0]; exact k0
    · rw [g3 5 (by decide), r0]; exact k5
    · rw [g3 6 (by decide), r0]; exact k6
    · rw [g3 8 (by decide), r0]; exact k8
    · rw [row 5 (by omega)]; exact kf1
    · rw [row 5 (by omega)]; exact kf2
    · rw [row 6 (by omega)]; exact kf3
    · rw [row 7 (by omega)]; exact k73
    · rw [row 8 (by omega), row 9 (by omega), row 10 (by omega)]; exact kl
    · rw [SS_succ]
      exact ME_tr g5 (ME_pas (by rw [e2]; exact ME_sy hMa) I p)
    · intro k hk hlt
      rw [g6, e2]
      by_cases c : nI k < SS I (LG q kd vl n) f (p + 1) 0 8
      · have t1 := kq1 k hk c
        have c' : nI k < act (LG q kd vl n p) (SS I (LG q kd vl n) f p) 0 8 := by
          rw [SS_succ, pas_0 (by decide)] at c; exact c
        have t2 := hKa k hk c'
        have t3 : SS I (LG q kd vl n) f (p + 1) 4 k = act (LG q kd vl n p) (SS I (LG q kd vl n) f p) 4 k := by
          rw [SS_succ, pas_row (by decide) (by decide)]
        exact (t1.symm.trans t3).trans t2
      · rw [hKE k hk hlt]
        rcases hst.2.2.1 with ⟨a1, a2⟩ | ⟨a1, a2⟩
        · rw [a2]
        · rw [a2 k]
          intro z
          apply c
          rw [SS_succ, pas_0 (by decide), hMa.r8, a1, hME.r8, h8, nI_1]
          rw [hME.r8, h8, nI_clamp (by omega)] at z
          exact nI_lt (by omega) (by omega)
  unfold f_X5_stepByLog
  rw [k7, cb_class hn k73 (fun i hi => (kl i hi).1) hq0 (by omega) hinc, bR_pos rfl, k73]
  by_cases c1 : n ≤ cb q n p
  · rw [if_pos (nI_le c1 (by omega))]
    rw [if_neg (by omega)] at hLG
    obtain ⟨h', e1, e2⟩ := fin 0 0 (Or.inl ⟨hLG, rfl, rfl⟩)
    rw [e1, bV_pos rfl]
    exact ⟨h', rfl, e2⟩
  · rw [if_neg (nI_ge (by omega) (by omega)), gd_pos (nI_in (show cb q n p < 300 by omega) (by decide)), nI_clamp (by omega), (kl _ (by omega)).1]
    have hqb := hq0 (cb q n p) (by omega)
    by_cases c2 : q (cb q n p) = p
    · rw [if_pos (by rw [c2]), gd_pos (gin2 (show cb q n p < 300 by omega) (by decide)), gd_pos (gin2 (show cb q n p < 300 by omega) (by decide)), (kl _ (by omega)).2.1, (kl _ (by omega)).2.2]
      rw [if_pos ⟨by omega, c2⟩] at hLG
      obtain ⟨h', e1, e2⟩ := fin (kd (cb q n p)) (vl (cb q n p)) (Or.inr hLG)
      rw [e1, bV_pos rfl]
      exact ⟨h', rfl, e2⟩
    · rw [if_neg (fun z => c2 ((nI_eq (by omega) (by omega)).mp z))]
      rw [if_neg (fun z => c2 z.2)] at hLG
      obtain ⟨h', e1, e2⟩ := fin 0 0 (Or.inl ⟨hLG, rfl, rfl⟩)
      rw [e1, bV_pos rfl]
      exact ⟨h', rfl, e2⟩
end PU
