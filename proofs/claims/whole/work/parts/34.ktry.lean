/-! THE PURE SIDE, 15: the class tries a live step -/
section PU
def FUL (I e n F : Nat) (k : Int32) (v : Int32) (c : hp) : Prop := (k ≠ 0 ∧ n = 300) ∨ RMF I e F (AA (evk k v) c)
theorem lkd_cases (c : hp) (rg : Int32) (w : Nat) : lkd c rg w = -1 ∨ lkd c rg w = 0 ∨ (lkd c rg w = 1 ∧ 0 < w) ∨ lkd c rg w = 2 := by
  unfold lkd
  by_cases c1 : rg = 0 ∨ c 0 6 = 0
  · rw [if_pos c1]
    by_cases c2 : mop (mxw c) = 0
    · rw [if_pos c2]; exact Or.inl rfl
    · rw [if_neg c2]
      by_cases c3 : mop (mxw c) = 12
      · rw [if_pos c3]
        by_cases c4 : w = 0
        · rw [if_pos c4]; exact Or.inl rfl
        · rw [if_neg c4]; exact Or.inr (Or.inr (Or.inl ⟨rfl, by omega⟩))
      · rw [if_neg c3]; exact Or.inr (Or.inl rfl)
  · rw [if_neg c1]; exact Or.inr (Or.inr (Or.inr rfl))
set_option maxHeartbeats 1000000 in
theorem try_class {I e n : Nat} {q : Nat → Nat} {kd vl f : Nat → Int32} {w : Nat} {ip : Nat → Int32} {rg : Int32} {h : hp} (hG : GOK I e e n q kd vl f) (hw : w ≤ 100) (hM : KI I e e n q kd vl f w ip rg h) :
    ((lkd (SS I (LG q kd vl n) f e) rg w = -1 ∨ FUL I e n (FPs I (LG q kd vl n) f (e / I + 1)) (lkd (SS I (LG q kd vl n) f e) rg w) (ip 0) (SS I (LG q kd vl n) f e)) → f_X5_tryStep h = some (0, h)) ∧
    (lkd (SS I (LG q kd vl n) f e) rg w = 2 → ¬ FUL I e n (FPs I (LG q kd vl n) f (e / I + 1)) 2 (ip 0) (SS I (LG q kd vl n) f e) → ∃ h', f_X5_tryStep h = some (1, h') ∧ KI I (e + 1) (e + 1) (n + 1) (va_up q n e) (va_up kd n 2) (va_up vl n 0) f w ip 0 h') ∧
    (lkd (SS I (LG q kd vl n) f e) rg w = 1 → ¬ FUL I e n (FPs I (LG q kd vl n) f (e / I + 1)) 1 (ip 0) (SS I (LG q kd vl n) f e) → ∃ h', f_X5_tryStep h = some (1, h') ∧ KI I (e + 1) (e + 1) (n + 1) (va_up q n e) (va_up kd n 1) (va_up vl n (ip 0)) f (w - 1) (fun i => ip (i + 1)) rg h') ∧
    (lkd (SS I (LG q kd vl n) f e) rg w = 0 → ¬ FUL I e n (FPs I (LG q kd vl n) f (e / I + 1)) 0 (ip 0) (SS I (LG q kd vl n) f e) → ∃ h', f_X5_tryStep h = some (1, h') ∧ KI I (e + 1) (e + 1) n q kd vl f w ip rg h') := by
  have heb := hG.eb
  obtain ⟨hI, -, hK, hn, hinc, hqe, hkd, hFP⟩ := hG
  obtain ⟨⟨k0, k5, k6, k7, k8⟩, ⟨fs, hfs, kf1, kf2, kf3⟩, ⟨k73, kl⟩, hME, hKE, hSN⟩ := hM
  obtain ⟨hv, h10, m, hm, h8⟩ := SS_ok I (LG q kd vl n) f e
  have hvk : vld (kv h) := ME_vld (ME_sy hME) hv
  have enl : f_X5_nextLiveKind h = some (lkd (SS I (LG q kd vl n) f e) rg w) := by
    rw [nlk_class hvk hw kf2, k6, ME_lkd hME hvk]
  have efl : ∀ k, (k = 0 ∨ k = 1 ∨ k = 2) → ∃ r, f_X5_isFull h k = some r ∧ (r = 0 ↔ ¬ FUL I e n (FPs I (LG q kd vl n) f (e / I + 1)) k (ip 0) (SS I (LG q kd vl n) f e)) := by
    intro k hk
    obtain ⟨r, g1, g2⟩ := full_class (h := h) (k := k) (ip 0) hk hvk hI hK (by omega) hn hFP k0 k8 k73 hSN.1.1 hSN.1.2.1
    rw [AA_ME hME hvk] at g2
    exact ⟨r, g1, g2⟩
  have ele : h 0 8 ≤ h 0 7 := by rw [k7, k8]; exact nI_le (Nat.le_refl _) (by omega)
  have hup := fun k0 v0 => LG_up (kd := kd) (vl := vl) (k0 := k0) (v0 := v0) hqe
  refine ⟨fun hz => ?_, fun hk hF => ?_, fun hk hF => ?_, fun hk hF => ?_⟩
  · unfold f_X5_tryStep
    rw [if_pos ele, enl, bR_pos rfl]
    by_cases c : lkd (SS I (LG q kd vl n) f e) rg w = -1
    · rw [if_pos c]
    · rw [if_neg c]
      have hF := hz.resolve_left c
      have hkk : lkd (SS I (LG q kd vl n) f e) rg w = 0 ∨ lkd (SS I (LG q kd vl n) f e) rg w = 1 ∨ lkd (SS I (LG q kd vl n) f e) rg w = 2 := by
        rcases lkd_cases (SS I (LG q kd vl n) f e) rg w with z | z | z | z
        · exact absurd z c
        · exact Or.inl z
        · exact Or.inr (Or.inl z.1)
        · exact Or.inr (Or.inr z)
      obtain ⟨r, g1, g2⟩ := efl _ hkk
      rw [g1, bR_pos rfl, if_neg (fun z => (g2.mp z) hF)]
  · obtain ⟨r, g1, g2⟩ := efl 2 (Or.inr (Or.inr rfl))
    obtain ⟨u1, u2e⟩ := hup 2 0
    have hn3 : n < 300 := by
      rcases Nat.lt_or_ge n 300 with z | z
      · exact z
      · exact absurd (Or.inl ⟨by decide, by omega⟩) hF
    obtain ⟨h1, a1, a2, a3, a4⟩ := logadd_class (h := u2 h 0 6 0) (e := e) (k := 2) (v := 0) hn3 (by rw [u2_ne _ _ _ _ _ (by decide)]; exact k73) (fun i hi => by rw [u2_ne _ _ _ _ _ (by decide), u2_ne _ _ _ _ _ (by decide), u2_ne _ _ _ _ _ (by decide)]; exact kl i hi)
    have row0 : h1 0 = (u2 h 0 6 0) 0 := a2 0 (by decide) (by decide) (by decide) (by decide)
    have rows : ∀ i, i ≠ 0 → i ≠ 7 → i ≠ 8 → i ≠ 9 → i ≠ 10 → h1 i = h i := fun i b0 b7 b8 b9 b10 => by rw [a2 i b7 b8 b9 b10, u2_ne _ _ _ _ _ b0]
    have hkv : kv h1 = kv h := kv_rows (rows 1 (by decide) (by decide) (by decide) (by decide) (by decide)) (rows 2 (by decide) (by decide) (by decide) (by decide) (by decide)) (rows 3 (by decide) (by decide) (by decide) (by decide) (by decide)) (rows 4 (by decide) (by decide) (by decide) (by decide) (by decide)) (by rw [row0]; simp [u2_app])
    obtain ⟨h2, b1, b2⟩ := KI_live (h := h1) (x1 := 2) (x2 := 0) (n' := n + 1) (q' := va_up q n e) (kd' := va_up kd n 2) (vl' := va_up vl n 0) (w' := w) (ip' := ip) (rg' := 0) (L := LG q kd vl n) (f := f) (ev := some (2, 0)) hI hK heb u1 u2e (Or.inr rfl) (fun z => hF (Or.inr z))
      (by rw [row0]; simp [u2_app]; exact ⟨k0, k5, k7, k8⟩) ⟨fs, hfs, by rw [rows 5 (by decide) (by decide) (by decide) (by decide) (by decide)]; exact kf1, by rw [rows 5 (by decide) (by decide) (by decide) (by decide) (by decide)]; exact kf2, by rw [rows 6 (by decide) (by decide) (by decide) (by decide) (by decide)]; exact kf3⟩
      ⟨a3, a4⟩ (by rw [hkv]; exact hME) (by rw [hkv]; exact hKE) (SNP_rows hSN (fun i hi => rows i (by omega) (by omega) (by omega) (by omega) (by omega)))
    refine ⟨h2, ?_, b2⟩
    unfold f_X5_tryStep
    rw [if_pos ele, enl, bR_pos rfl, hk, if_neg (by decide), g1, bR_pos rfl, if_pos (g2.mpr hF)]
    unfold f_X5_stepLive
    rw [if_pos rfl]
    unfold f_X5_stepLive_28
    rw [if_neg (by decide), show (u2 h 0 6 0) 0 7 = nI e by simp [u2_app]; exact k7, a1, bV_pos rfl]
    unfold f_X5_stepLive_45
    rw [b1, bV_pos rfl, bV_pos rfl]
  · obtain ⟨r, g1, g2⟩ := efl 1 (Or.inr (Or.inl rfl))
    obtain ⟨u1, u2e⟩ := hup 1 (ip 0)
    have hw0 : 0 < w := by
      rcases lkd_cases (SS I (LG q kd vl n) f e) rg w with z | z | z | z
      · rw [hk] at z; exact absurd z (by decide)
      · rw [hk] at z; exact absurd z (by decide)
      · exact z.2
      · rw [hk] at z; exact absurd z (by decide)
    have hn3 : n < 300 := by
      rcases Nat.lt_or_ge n 300 with z | z
      · exact z
      · exact absurd (Or.inl ⟨by decide, by omega⟩) hF
    have et : f_X0_take h = some (ip 0, u2 (u2 h 5 1 (nI ((fs + 1) % 100))) 5 2 (nI (w - 1))) := by
      unfold f_X0_take
      rw [kf1, kf2, gd_pos (nI_in hfs (by decide)), nI_clamp (by omega), nI_1, show nI (fs + 1) - nI (fs + 1) / 100 * 100 = nI ((fs + 1) % 100) from pk_rem (d := 100) (by omega) (by decide) (by decide), show nI w - 1 = nI (w - 1) from pk_sub (a := w) (b := 1) hw0]
      simp only [gl]
      have := kf3 0 hw0
      rw [Nat.add_zero, Nat.mod_eq_of_lt hfs] at this
      rw [this]
    generalize hh : u2 (u2 h 5 1 (nI ((fs + 1) % 100))) 5 2 (nI (w - 1)) = ht at et
    have rt : ∀ i, i ≠ 5 → ht i = h i := fun i hi => by rw [← hh, u2_ne _ _ _ _ _ hi, u2_ne _ _ _ _ _ hi]
    have t1 : ht 5 1 = nI ((fs + 1) % 100) := by rw [← hh]; simp [u2_app]
    have t2 : ht 5 2 = nI (w - 1) := by rw [← hh]; simp [u2_app]
    obtain ⟨h1, a1, a2, a3, a4⟩ := logadd_class (h := ht) (e := e) (k := 1) (v := ip 0) hn3 (by rw [rt 7 (by decide)]; exact k73) (fun i hi => by rw [rt 8 (by decide), rt 9 (by decide), rt 10 (by decide)]; exact kl i hi)
    have rows : ∀ i, i ≠ 5 → i ≠ 7 → i ≠ 8 → i ≠ 9 → i ≠ 10 → h1 i = h i := fun i b5 b7 b8 b9 b10 => by rw [a2 i b7 b8 b9 b10, rt i b5]
    have row5 : h1 5 = ht 5 := a2 5 (by decide) (by decide) (by decide) (by decide)
    have row0 : h1 0 = h 0 := rows 0 (by decide) (by decide) (by decide) (by decide) (by decide)
    have hkv : kv h1 = kv h := kv_rows (rows 1 (by decide) (by decide) (by decide) (by decide) (by decide)) (rows 2 (by decide) (by decide) (by decide) (by decide) (by decide)) (rows 3 (by decide) (by decide) (by decide) (by decide) (by decide)) (rows 4 (by decide) (by decide) (by decide) (by decide) (by decide)) (by rw [row0])
    obtain ⟨h2, b1, b2⟩ := KI_live (h := h1) (x1 := 1) (x2 := ip 0) (n' := n + 1) (q' := va_up q n e) (kd' := va_up kd n 1) (vl' := va_up vl n (ip 0)) (w' := w - 1) (ip' := fun i => ip (i + 1)) (rg' := rg) (L := LG q kd vl n) (f := f) (ev := some (1, ip 0)) hI hK heb u1 u2e (Or.inr rfl) (fun z => hF (Or.inr z))
      (by rw [row0]; exact ⟨k0, k5, k6, k7, k8⟩) ⟨(fs + 1) % 100, Nat.mod_lt _ (by decide), by rw [row5]; exact t1, by rw [row5]; exact t2, fun i hi => by
        rw [rows 6 (by decide) (by decide) (by decide) (by decide) (by decide)]
        have := kf3 (i + 1) (by omega)
        rw [← this]
        congr 1
        omega⟩
      ⟨a3, a4⟩ (by rw [hkv]; exact hME) (by rw [hkv]; exact hKE) (SNP_rows hSN (fun i hi => rows i (by omega) (by omega) (by omega) (by omega) (by omega)))
    refine ⟨h2, ?_, b2⟩
    unfold f_X5_tryStep
    rw [if_pos ele, enl, bR_pos rfl, hk, if_neg (by decide), g1, bR_pos rfl, if_pos (g2.mpr hF)]
    unfold f_X5_stepLive
    rw [if_neg (by decide), if_pos rfl, et, bM_pos rfl]
    unfold f_X5_stepLive_28
    rw [if_neg (by decide), show ht 0 7 = nI e by rw [rt 0 (by decide)]; exact k7, a1, bV_pos rfl]
    unfold f_X5_stepLive_45
    rw [b1, bV_pos rfl, bV_pos rfl]
  · obtain ⟨r, g1, g2⟩ := efl 0 (Or.inl rfl)
    obtain ⟨h2, b1, b2⟩ := KI_live (h := h) (x1 := 0) (x2 := 0) (n' := n) (q' := q) (kd' := kd) (vl' := vl) (w' := w) (ip' := ip) (rg' := rg) (L := LG q kd vl n) (f := f) (ev := none) hI hK heb (fun _ _ => rfl) (LG_e hqe) (Or.inl ⟨rfl, rfl, rfl⟩) (fun z => hF (Or.inr z))
      ⟨k0, k5, k6, k7, k8⟩ ⟨fs, hfs, kf1, kf2, kf3⟩ ⟨k73, kl⟩ hME hKE hSN
    refine ⟨h2, ?_, b2⟩
    unfold f_X5_tryStep
    rw [if_pos ele, enl, bR_pos rfl, hk, if_neg (by decide), g1, bR_pos rfl, if_pos (g2.mpr hF)]
    unfold f_X5_stepLive
    rw [if_neg (by decide), if_neg (by decide)]
    unfold f_X5_stepLive_28
    rw [if_pos rfl]
    unfold f_X5_stepLive_45
    rw [b1, bV_pos rfl, bV_pos rfl]
end PU
