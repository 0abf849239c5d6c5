/-! THE PURE SIDE, 17: the reference tries a live step -/
section PU
theorem meant_model (g : hp) (x : Int32) : f_X6_meant g x = some (mtg g x) := by
  unfold f_X6_meant
  rw [gd_pos (g7 _)]
  rfl
theorem full67_model {g : hp} {K F A : Nat} {pg : Nat → Nat} (hK : K + 1 ≤ 40) (h17 : g 0 17 = nI (K + 1)) (h8 : ∀ k, k < K + 1 → g 8 k = nI (pg k)) (hF : F = sm pg (K + 1)) (hF3 : F ≤ 300) (hA : A ≤ 32) : f_X6_isFull_67 g (nI A) = some (if K + 1 = 40 ∨ 300 < F + A then 1 else 0) := by
  unfold f_X6_isFull_67
  rw [h17]
  by_cases c1 : K + 1 = 40
  · rw [if_pos (show nI (K + 1) = 40 by rw [c1]; rfl), if_pos (Or.inl c1)]
  · rw [if_neg (show ¬ nI (K + 1) = 40 from fun z => c1 ((nI_eq (b := 40) (by omega) (by decide)).mp z)), ap_model hK h17 h8, bR_pos rfl, nI_add, ← hF]
    by_cases c2 : 300 < F + A
    · rw [if_neg (show ¬ nI (F + A) ≤ 300 from nI_ge (a := 300) c2 (by omega)), if_pos (Or.inr c2)]
    · rw [if_pos (show nI (F + A) ≤ 300 from nI_le (b := 300) (by omega) (by decide)), if_neg (fun z => z.elim c1 c2)]
theorem full_model {g : hp} {I e K F A : Nat} {pg : Nat → Nat} {x1 : Int32} (hI : 2 ≤ I ∧ I ≤ 64) (he : e < 2 ^ 29) (hKe : e / I = K) (hK : K + 1 ≤ 40) (h0 : g 0 0 = nI I) (h11 : g 0 11 = nI e) (h17 : g 0 17 = nI (K + 1)) (h8 : ∀ k, k < K + 1 → g 8 k = nI (pg k)) (hF : F = sm pg (K + 1)) (hF3 : F ≤ 300)
    (hA : (x1 = 0 ∧ ∃ v, A = cnt (exi g v 9) 32) ∨ (x1 = 1 ∧ A = cnt (g 9) 32)) : ∃ r, f_X6_isFull g x1 (mxw g) = some r ∧ (r = 0 ↔ ¬ RMF I e F A) := by
  unfold f_X6_isFull
  rw [h0, h11, gd_pos (nI_n0 (by omega) (by omega)), nI_1]
  by_cases c : (e + 1) % I = 0
  · rw [if_pos (by rw [rem_nI (by omega) (by omega) (by omega)]; exact c)]
    have hA32 : A ≤ 32 := by
      rcases hA with ⟨-, v, rfl⟩ | ⟨-, rfl⟩ <;> exact cnt_le _ 32
    have fin : ∃ r, f_X6_isFull_67 g (nI A) = some r ∧ (r = 0 ↔ ¬ RMF I e F A) := by
      rw [full67_model hK h17 h8 hF hF3 hA32]
      refine ⟨_, rfl, ?_⟩
      by_cases z : K + 1 = 40 ∨ 300 < F + A
      · rw [if_pos z]
        exact ⟨fun y => absurd y (by decide), fun y => absurd ⟨c, by rw [hKe]; exact z⟩ y⟩
      · rw [if_neg z]
        exact ⟨fun _ y => z (by rw [← hKe]; exact y.2), fun _ => rfl⟩
    have e0 : ∀ z : Nat, nI z + 0 = nI z := fun z => nI_add z 0
    rcases hA with ⟨rfl, v, hA⟩ | ⟨rfl, hA⟩
    · rw [if_pos rfl, show ((mxw g).toUInt32 >>> ((24 : Int32).toUInt32 &&& Int32.toUInt32 31)).toInt32 = mop (mxw g) from rfl]
      have hcn := exi_cnt g v
      by_cases c8 : mop (mxw g) = 8
      · rw [if_pos c8, wp_model, bR_pos rfl, meant_model, bR_pos rfl, gd_pos (show ¬ (mtg g (mxw g) / 16 < 0 ∨ 32 ≤ (mtg g (mxw g) / 16).toNatClampNeg) from g32 _)]
        simp only [gl]
        by_cases z : g 9 (mtg g (mxw g) / 16).toNatClampNeg = 0
        · rw [if_pos z, nI_1, show cnt (g 9) 32 + 1 = A by rw [hA, hcn, if_pos ⟨c8, z⟩]]
          exact fin
        · rw [if_neg z, e0, show cnt (g 9) 32 = A by rw [hA, hcn, if_neg (fun y => z y.2)]; rfl]
          exact fin
      · rw [if_neg c8, wp_model, bR_pos rfl]
        simp only [gl]
        rw [e0, show cnt (g 9) 32 = A by rw [hA, hcn, if_neg (fun y => c8 y.1)]; rfl]
        exact fin
    · rw [if_neg (by decide), wp_model, bR_pos rfl]
      simp only [gl]
      rw [e0, ← hA]
      exact fin
  · rw [if_neg (by rw [rem_nI (by omega) (by omega) (by omega)]; exact c)]
    exact ⟨0, rfl, fun _ z => c z.1, fun _ => rfl⟩
/-- without a ring -/
def nrb (h : hp) : Option (Int32 × hp) := gd (¬ ((h 0 4) < 0 ∨ 512 ≤ (h 0 4).toNatClampNeg)) (if mop (mxw h) = 12 then (if mop (mxw h) = 0 then (some (0, h)) else (if h 0 21 = 0 then (some (0, h)) else (if h 0 15 = 300 then (some (0, h)) else (bR (f_X6_isFull h 0 (mxw h)) (fun rr24 => if rr24 = 0 then (bM (f_X6_takeInput h) (fun rr27 hh28 => bV (f_X6_note hh28 1 rr27) (fun hh30 => bV (f_X6_instruct hh30 (mxw h) rr27) (fun hh32 => f_X6_live_162 hh32 )))) else (some (0, h))))))) else (if mop (mxw h) = 0 then (some (0, h)) else (bR (f_X6_isFull h 0 (mxw h)) (fun rr7 => if rr7 = 0 then (bV (f_X6_instruct h (mxw h) 0) (fun hh10 => f_X6_live_162 hh10 )) else (some (0, h))))))
def rgb (h : hp) : Option (Int32 × hp) := gd (¬ ((h 0 4) < 0 ∨ 512 ≤ (h 0 4).toNatClampNeg)) (if h 0 15 = 300 then (some (0, h)) else (bR (f_X6_isFull h 1 (mxw h)) (fun rr60 => if rr60 = 0 then (bV (f_X6_note h 2 0) (fun hh63 => bV (f_X6_interrupt (u2 hh63 0 22 0)) (fun hh65 => f_X6_live_162 hh65 ))) else (some (0, h)))))
theorem live_eq (h : hp) : f_X6_live h = if h 0 22 = 0 then nrb h else if h 0 6 = 0 then nrb h else rgb h := rfl
set_option maxHeartbeats 1000000 in
theorem try_model {I e n : Nat} {q : Nat → Nat} {kd vl f : Nat → Int32} {w : Nat} {ip : Nat → Int32} {rg : Int32} {g : hp} (hG : GOK I e e n q kd vl f) (hw : w ≤ 100) (hM : MI I e e n q kd vl f w ip rg g) :
    ((lkd (SS I (LG q kd vl n) f e) rg w = -1 ∨ FUL I e n (FPs I (LG q kd vl n) f (e / I + 1)) (lkd (SS I (LG q kd vl n) f e) rg w) (ip 0) (SS I (LG q kd vl n) f e)) → f_X6_live g = some (0, g)) ∧
    (lkd (SS I (LG q kd vl n) f e) rg w = 2 → ¬ FUL I e n (FPs I (LG q kd vl n) f (e / I + 1)) 2 (ip 0) (SS I (LG q kd vl n) f e) → ∃ g', f_X6_live g = some (1, g') ∧ MI I (e + 1) (e + 1) (n + 1) (va_up q n e) (va_up kd n 2) (va_up vl n 0) f w ip 0 g') ∧
    (lkd (SS I (LG q kd vl n) f e) rg w = 1 → ¬ FUL I e n (FPs I (LG q kd vl n) f (e / I + 1)) 1 (ip 0) (SS I (LG q kd vl n) f e) → ∃ g', f_X6_live g = some (1, g') ∧ MI I (e + 1) (e + 1) (n + 1) (va_up q n e) (va_up kd n 1) (va_up vl n (ip 0)) f (w - 1) (fun i => ip (i + 1)) rg g') ∧
    (lkd (SS I (LG q kd vl n) f e) rg w = 0 → ¬ FUL I e n (FPs I (LG q kd vl n) f (e / I + 1)) 0 (ip 0) (SS I (LG q kd vl n) f e) → ∃ g', f_X6_live g = some (1, g') ∧ MI I (e + 1) (e + 1) n q kd vl f w ip rg g') := by
  have heb := hG.eb
  obtain ⟨hI, -, hK, hn, hinc, hqe, hkd, hFP⟩ := hG
  obtain ⟨⟨m0, m9, m11, m15, m17, m21, m22⟩, m16, ⟨m1, m5, m8, m10⟩, hME, hKE⟩ := hM
  obtain ⟨hv, h10, m, hm, h8⟩ := SS_ok I (LG q kd vl n) f e
  have hvg : vld g := ME_vld (ME_sy hME) hv
  have g10 : g 0 10 = nI e := by rw [hME.r10]; exact h10
  have hcb : cb q n e = n := cb_all hinc hqe
  rw [hcb] at m16
  have hx : mxw g = mxw (SS I (LG q kd vl n) f e) := ME_xw hME hvg
  have hlk : lkd (SS I (LG q kd vl n) f e) rg w = lkd g rg w := ME_lkd (ME_sy hME) hv rg w
  have hfull : ∀ (x1 : Int32) (A : Nat), ((x1 = 0 ∧ ∃ v, A = cnt (exi g v 9) 32) ∨ (x1 = 1 ∧ A = cnt (g 9) 32)) → ∃ r, f_X6_isFull g x1 (mxw g) = some r ∧ (r = 0 ↔ ¬ RMF I e (FPs I (LG q kd vl n) f (e / I + 1)) A) := fun x1 A hA => full_model hI (by omega) rfl hK m0 m11 m17 m8 rfl hFP hA
  have hAA : ∀ ev, AA ev (SS I (LG q kd vl n) f e) = cnt (act ev g 9) 32 := fun ev => AA_ME (ME_sy hME) hv ev
  have hup := fun k0 v0 => LG_up (kd := kd) (vl := vl) (k0 := k0) (v0 := v0) hqe
  have g15 : g 0 15 = 300 ↔ n = 300 := ⟨fun z => by rw [m15] at z; exact (nI_eq (b := 300) (by omega) (by decide)).mp z, fun z => by rw [m15, z]; rfl⟩
  have g21 : g 0 21 = 0 ↔ w = 0 := ⟨fun z => by rw [m21] at z; exact (nI_eq (b := 0) (by omega) (by decide)).mp z, fun z => by rw [m21, z]; rfl⟩
  have hrng9 : rng g 9 = g 9 := by unfold rng; simp [u2_ne]
  -- which of the two bodies
  have hb1 : (rg = 0 ∨ g 0 6 = 0) → f_X6_live g = nrb g := by
    intro z
    rw [live_eq, m22]
    by_cases c1 : rg = 0
    · rw [if_pos c1]
    · rw [if_neg c1, if_pos (z.resolve_left c1)]
  have hb2 : ¬ (rg = 0 ∨ g 0 6 = 0) → f_X6_live g = rgb g := by
    intro z
    rw [live_eq, m22, if_neg (fun y => z (Or.inl y)), if_neg (fun y => z (Or.inr y))]
  rw [hlk]
  by_cases cr : rg = 0 ∨ g 0 6 = 0
  · have el : lkd g rg w = (if mop (mxw g) = 0 then -1 else if mop (mxw g) = 12 then (if w = 0 then -1 else 1) else 0) := by unfold lkd; rw [if_pos cr]
    rw [hb1 cr, el]
    unfold nrb
    rw [gd_pos hvg.pc]
    by_cases c0 : mop (mxw g) = 0
    · rw [if_pos c0, if_neg (show ¬ mop (mxw g) = 12 by rw [c0]; decide), if_pos c0]
      exact ⟨fun _ => rfl, fun z => absurd z (by decide), fun z => absurd z (by decide), fun z => absurd z (by decide)⟩
    · rw [if_neg c0, if_neg c0, if_neg c0]
      by_cases c12 : mop (mxw g) = 12
      · rw [if_pos c12, if_pos c12]
        by_cases cw : w = 0
        · rw [if_pos cw, if_pos (g21.mpr cw)]
          exact ⟨fun _ => rfl, fun z => absurd z (by decide), fun z => absurd z (by decide), fun z => absurd z (by decide)⟩
        · rw [if_neg cw, if_neg (fun z => cw (g21.mp z))]
          obtain ⟨r, a1, a2⟩ := hfull 0 (cnt (exi g (ip 0) 9) 32) (Or.inl ⟨rfl, ip 0, rfl⟩)
          have hA1 : AA (evk 1 (ip 0)) (SS I (LG q kd vl n) f e) = cnt (exi g (ip 0) 9) 32 := hAA _
          rw [← hA1] at a2
          refine ⟨fun z => ?_, fun z => absurd z (by decide), fun _ hF => ?_, fun z => absurd z (by decide)⟩
          · have hF := z.resolve_left (by decide)
            by_cases c3 : n = 300
            · rw [if_pos (g15.mpr c3)]
            · rw [if_neg (fun z => c3 (g15.mp z)), a1, bR_pos rfl, if_neg]
              intro y
              exact hF.elim (fun u => c3 u.2) (a2.mp y)
          · have hn3 : ¬ n = 300 := fun z => hF (Or.inl ⟨by decide, z⟩)
            obtain ⟨g1, b1, b2, b3, b4, b5⟩ := take_model (by omega) hw m21 m10
            obtain ⟨g2, d1, d2, d3, d4, d5, d6⟩ := note_model (g := g1) (n := n) (e := e) (q := q) (kd := kd) (vl := vl) (k := 1) (v := ip 0) (by omega) (by rw [b3 15 (by decide)]; exact m15) (by rw [b3 10 (by decide)]; exact g10) (fun i hi => by rw [b2 5 (by decide) (by decide), b2 6 (by decide) (by decide), b2 7 (by decide) (by decide)]; exact m5 i hi)
            have rows : ∀ i, i ≠ 0 → i ≠ 5 → i ≠ 6 → i ≠ 7 → i ≠ 10 → g2 i = g i := fun i c0 c5 c6 c7 c10 => by rw [d2 i c0 c5 c6 c7, b2 i c0 c10]
            have row0 : ∀ j, j ≠ 15 → j ≠ 16 → j ≠ 21 → g2 0 j = g 0 j := fun j c15 c16 c21 => by rw [d3 j c15 c16, b3 j c21]
            have hM2 : ME g2 g := ME.of (row0 4 (by decide) (by decide) (by decide)) (row0 5 (by decide) (by decide) (by decide)) (row0 6 (by decide) (by decide) (by decide)) (row0 8 (by decide) (by decide) (by decide)) (row0 10 (by decide) (by decide) (by decide)) (fun k _ => by rw [rows 2 (by decide) (by decide) (by decide) (by decide) (by decide)]) (fun k _ => by rw [rows 3 (by decide) (by decide) (by decide) (by decide) (by decide)]) (fun k _ => by rw [rows 9 (by decide) (by decide) (by decide) (by decide) (by decide)])
            have hMS := ME_tr hM2 hME
            obtain ⟨u1, u2e⟩ := hup 1 (ip 0)
            obtain ⟨g3, z1, z2⟩ := MI_live (g := g2) (n' := n + 1) (q' := va_up q n e) (kd' := va_up kd n 1) (vl' := va_up vl n (ip 0)) (w' := w - 1) (ip' := fun i => ip (i + 1)) (rg' := rg) (L := LG q kd vl n) (f := f) (ev := some (1, ip 0)) hI hK heb (inc_up hinc hqe) (q_up hqe) u1 u2e (fun z => hF (Or.inr z))
              ⟨by rw [row0 0 (by decide) (by decide) (by decide)]; exact m0, by rw [row0 9 (by decide) (by decide) (by decide)]; exact m9, by rw [row0 11 (by decide) (by decide) (by decide)]; exact m11, d4, by rw [row0 17 (by decide) (by decide) (by decide)]; exact m17, by rw [d3 21 (by decide) (by decide)]; exact b4, by rw [row0 22 (by decide) (by decide) (by decide)]; exact m22⟩ d5
              ⟨by rw [rows 1 (by decide) (by decide) (by decide) (by decide) (by decide)]; exact m1, d6, by rw [rows 8 (by decide) (by decide) (by decide) (by decide) (by decide)]; exact m8, fun i hi => by rw [d2 10 (by decide) (by decide) (by decide) (by decide)]; exact b5 i hi⟩ hMS (fun k hk hlt => by rw [rows 4 (by decide) (by decide) (by decide) (by decide) (by decide)]; exact hKE k hk hlt)
            refine ⟨g3, ?_, z2⟩
            have hi := inst_model hMS hv h8 (show m < 2 ^ 30 by omega) (ip 0)
            rw [show g2 2 (g2 0 4).toNatClampNeg = mxw g from by rw [rows 2 (by decide) (by decide) (by decide) (by decide) (by decide), row0 4 (by decide) (by decide) (by decide)]; rfl] at hi
            rw [if_neg (fun z => hn3 (g15.mp z)), a1, bR_pos rfl, if_pos (a2.mpr (fun z => hF (Or.inr z))), b1, bM_pos rfl, d1, bV_pos rfl, hi, bV_pos rfl]
            exact z1
      · rw [if_neg c12, if_neg c12]
        obtain ⟨r, a1, a2⟩ := hfull 0 (cnt (exi g 0 9) 32) (Or.inl ⟨rfl, 0, rfl⟩)
        have hA1 : AA (evk 0 (ip 0)) (SS I (LG q kd vl n) f e) = cnt (exi g 0 9) 32 := hAA _
        rw [← hA1] at a2
        refine ⟨fun z => ?_, fun z => absurd z (by decide), fun z => absurd z (by decide), fun _ hF => ?_⟩
        · have hF := z.resolve_left (by decide)
          rw [a1, bR_pos rfl, if_neg]
          intro y
          exact hF.elim (fun u => u.1 rfl) (a2.mp y)
        · obtain ⟨g3, z1, z2⟩ := MI_live (g := g) (n' := n) (q' := q) (kd' := kd) (vl' := vl) (w' := w) (ip' := ip) (rg' := rg) (L := LG q kd vl n) (f := f) (ev := none) hI hK heb hinc (fun i hi => by have := hqe i hi; omega) (fun _ _ => rfl) (LG_e hqe) (fun z => hF (Or.inr z))
            ⟨m0, m9, m11, m15, m17, m21, m22⟩ m16 ⟨m1, m5, m8, m10⟩ hME hKE
          refine ⟨g3, ?_, z2⟩
          have hi := inst_model hME hv h8 (show m < 2 ^ 30 by omega) 0
          rw [show g 2 (g 0 4).toNatClampNeg = mxw g from rfl] at hi
          rw [a1, bR_pos rfl, if_pos (a2.mpr (fun z => hF (Or.inr z))), hi, bV_pos rfl]
          exact z1
  · have el : lkd g rg w = 2 := by unfold lkd; rw [if_neg cr]
    rw [hb2 cr, el]
    unfold rgb
    rw [gd_pos hvg.pc]
    obtain ⟨r, a1, a2⟩ := hfull 1 (cnt (g 9) 32) (Or.inr ⟨rfl, rfl⟩)
    have hA1 : AA (evk 2 (ip 0)) (SS I (LG q kd vl n) f e) = cnt (g 9) 32 := by
      rw [hAA]
      show cnt (rng g 9) 32 = _
      rw [hrng9]
    rw [← hA1] at a2
    refine ⟨fun z => ?_, fun _ hF => ?_, fun z => absurd z (by decide), fun z => absurd z (by decide)⟩
    · have hF := z.resolve_left (by decide)
      by_cases c3 : n = 300
      · rw [if_pos (g15.mpr c3)]
      · rw [if_neg (fun z => c3 (g15.mp z)), a1, bR_pos rfl, if_neg]
        intro y
        exact hF.elim (fun u => c3 u.2) (a2.mp y)
    · have hn3 : ¬ n = 300 := fun z => hF (Or.inl ⟨by decide, z⟩)
      obtain ⟨g2, d1, d2, d3, d4, d5, d6⟩ := note_model (g := g) (n := n) (e := e) (q := q) (kd := kd) (vl := vl) (k := 2) (v := 0) (by omega) m15 g10 m5
      generalize hg3 : u2 g2 0 22 0 = g3
      have rows : ∀ i, i ≠ 0 → i ≠ 5 → i ≠ 6 → i ≠ 7 → g3 i = g i := fun i c0 c5 c6 c7 => by rw [← hg3, u2_ne _ _ _ _ _ c0, d2 i c0 c5 c6 c7]
      have rowl : ∀ i, i ≠ 0 → g3 i = g2 i := fun i c0 => by rw [← hg3, u2_ne _ _ _ _ _ c0]
      have row0 : ∀ j, j ≠ 15 → j ≠ 16 → j ≠ 22 → g3 0 j = g 0 j := fun j c15 c16 c22 => by rw [← hg3]; simp [u2_app, c22]; exact d3 j c15 c16
      have r15 : g3 0 15 = nI (n + 1) := by rw [← hg3]; simp [u2_app]; exact d4
      have r16 : g3 0 16 = nI (n + 1) := by rw [← hg3]; simp [u2_app]; exact d5
      have r22 : g3 0 22 = 0 := by rw [← hg3]; simp [u2_app]
      have hM2 : ME g3 g := ME.of (row0 4 (by decide) (by decide) (by decide)) (row0 5 (by decide) (by decide) (by decide)) (row0 6 (by decide) (by decide) (by decide)) (row0 8 (by decide) (by decide) (by decide)) (row0 10 (by decide) (by decide) (by decide)) (fun k _ => by rw [rows 2 (by decide) (by decide) (by decide) (by decide)]) (fun k _ => by rw [rows 3 (by decide) (by decide) (by decide) (by decide)]) (fun k _ => by rw [rows 9 (by decide) (by decide) (by decide) (by decide)])
      obtain ⟨u1, u2e⟩ := hup 2 0
      obtain ⟨g4, z1, z2⟩ := MI_live (g := g3) (n' := n + 1) (q' := va_up q n e) (kd' := va_up kd n 2) (vl' := va_up vl n 0) (w' := w) (ip' := ip) (rg' := 0) (L := LG q kd vl n) (f := f) (ev := some (2, 0)) hI hK heb (inc_up hinc hqe) (q_up hqe) u1 u2e (fun z => hF (Or.inr z))
        ⟨by rw [row0 0 (by decide) (by decide) (by decide)]; exact m0, by rw [row0 9 (by decide) (by decide) (by decide)]; exact m9, by rw [row0 11 (by decide) (by decide) (by decide)]; exact m11, r15, by rw [row0 17 (by decide) (by decide) (by decide)]; exact m17, by rw [row0 21 (by decide) (by decide) (by decide)]; exact m21, r22⟩ r16
        ⟨by rw [rows 1 (by decide) (by decide) (by decide) (by decide)]; exact m1, by rw [rowl 5 (by decide), rowl 6 (by decide), rowl 7 (by decide)]; exact d6, by rw [rows 8 (by decide) (by decide) (by decide) (by decide)]; exact m8, by rw [rows 10 (by decide) (by decide) (by decide) (by decide)]; exact m10⟩ (ME_tr hM2 hME) (fun k hk hlt => by rw [rows 4 (by decide) (by decide) (by decide) (by decide)]; exact hKE k hk hlt)
      refine ⟨g4, ?_, z2⟩
      rw [if_neg (fun z => hn3 (g15.mp z)), a1, bR_pos rfl, if_pos (a2.mpr (fun z => hF (Or.inr z))), d1, bV_pos rfl, hg3, show f_X6_interrupt g3 = some (rng g3) from rfl, bV_pos rfl]
      exact z1
end PU
