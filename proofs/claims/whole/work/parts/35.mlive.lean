/-! THE PURE SIDE, 16: the reference's live step -/
section PU
theorem note_model {g : hp} {n e : Nat} {q : Nat → Nat} {kd vl : Nat → Int32} {k v : Int32} (hn : n < 300) (h15 : g 0 15 = nI n) (h10 : g 0 10 = nI e) (hl : ∀ i, i < n → g 5 i = nI (q i) ∧ g 6 i = kd i ∧ g 7 i = vl i) :
    ∃ g', f_X6_note g k v = some g' ∧ (∀ i, i ≠ 0 → i ≠ 5 → i ≠ 6 → i ≠ 7 → g' i = g i) ∧ (∀ j, j ≠ 15 → j ≠ 16 → g' 0 j = g 0 j) ∧ g' 0 15 = nI (n + 1) ∧ g' 0 16 = nI (n + 1) ∧ ∀ i, i < n + 1 → g' 5 i = nI (va_up q n e i) ∧ g' 6 i = va_up kd n k i ∧ g' 7 i = va_up vl n v i := by
  unfold f_X6_note
  rw [h15, h10, gd_pos (nI_in hn (by decide)), gd_pos (nI_in hn (by decide)), gd_pos (nI_in hn (by decide)), nI_clamp (by omega), nI_1]
  refine ⟨_, rfl, fun i a0 a5 a6 a7 => ?_, fun j b15 b16 => by simp [u2_app, b15, b16], by simp [u2_app], by simp [u2_app], fun i hi => ?_⟩
  · rw [u2_ne _ _ _ _ _ a0, u2_ne _ _ _ _ _ a0, u2_ne _ _ _ _ _ a7, u2_ne _ _ _ _ _ a6, u2_ne _ _ _ _ _ a5]
  · by_cases c : i = n
    · subst c
      rw [vu_at, vu_at, vu_at]
      simp [u2_app]
    · rw [vu_ne _ _ _ c, vu_ne _ _ _ c, vu_ne _ _ _ c]
      obtain ⟨b1, b2, b3⟩ := hl i (by omega)
      simp [u2_app, c]
      exact ⟨b1, b2, b3⟩
theorem take_loop {w1 : Nat} (hw : w1 < 100) (x1 : Int32) : ∀ m j (h : hp), j ≤ w1 → w1 - j < m → h 0 21 = nI w1 → ∃ h', f_X6_takeInput_19 m h x1 (nI j) = some (x1, h') ∧ (∀ r, r ≠ 10 → h' r = h r) ∧ (∀ i, i < j → h' 10 i = h 10 i) ∧ ∀ i, j ≤ i → i < w1 → h' 10 i = h 10 (i + 1) := by
  intro m
  induction m with
  | zero => intro j h h1 h2; omega
  | succ m ih =>
    intro j h h1 h2 h21
    rw [f_X6_takeInput_19, h21]
    by_cases c : w1 ≤ j
    · rw [if_pos (nI_le c (by omega))]
      exact ⟨h, rfl, fun _ _ => rfl, fun _ _ => rfl, fun i a b => by omega⟩
    · rw [if_neg (nI_ge (by omega) (by omega)), nI_1, gd_pos (nI_in (by omega) (by decide)), gd_pos (nI_in (by omega) (by decide)), nI_clamp (by omega), nI_clamp (by omega)]
      obtain ⟨h', e1, e2, e3, e4⟩ := ih (j + 1) (u2 h 10 j (h 10 (j + 1))) (by omega) (by omega) (by rw [u2_ne _ _ _ _ _ (by decide)]; exact h21)
      refine ⟨h', e1, fun r hr => by rw [e2 r hr, u2_ne _ _ _ _ _ hr], fun i hi => ?_, fun i a b => ?_⟩
      · rw [e3 i (by omega)]; simp [u2_app, show i ≠ j by omega]
      · rcases Nat.lt_or_ge j i with z | z
        · rw [e4 i (by omega) b]; simp [u2_app, show i + 1 ≠ j by omega]
        · obtain rfl : i = j := by omega
          rw [e3 i (by omega)]; simp [u2_app]
theorem take_model {g : hp} {w : Nat} {ip : Nat → Int32} (hw0 : 0 < w) (hw : w ≤ 100) (h21 : g 0 21 = nI w) (hi : ∀ i, i < w → g 10 i = ip i) :
    ∃ g', f_X6_takeInput g = some (ip 0, g') ∧ (∀ r, r ≠ 0 → r ≠ 10 → g' r = g r) ∧ (∀ j, j ≠ 21 → g' 0 j = g 0 j) ∧ g' 0 21 = nI (w - 1) ∧ ∀ i, i < w - 1 → g' 10 i = ip (i + 1) := by
  unfold f_X6_takeInput
  simp only [gl]
  rw [h21, show nI w - 1 = nI (w - 1) from pk_sub (a := w) (b := 1) hw0, show (0 : Int32).toNatClampNeg = 0 from by decide, hi 0 hw0]
  obtain ⟨g', e1, e2, e3, e4⟩ := take_loop (w1 := w - 1) (by omega) (ip 0) 1000 0 (u2 g 0 21 (nI (w - 1))) (Nat.zero_le _) (by omega) (by simp [u2_app])
  refine ⟨g', e1, fun r r0 r10 => by rw [e2 r r10, u2_ne _ _ _ _ _ r0], fun j hj => ?_, ?_, fun i h => ?_⟩
  · rw [e2 0 (by decide)]; simp [u2_app, hj]
  · rw [e2 0 (by decide)]; simp [u2_app]
  · rw [e4 i (Nat.zero_le _) h, u2_ne _ _ _ _ _ (by decide)]; exact hi (i + 1) (by omega)
theorem live162_model {g : hp} {I e K : Nat} (hI : 2 ≤ I ∧ I ≤ 64) (he : e < 2 ^ 29) (hKe : e / I = K) (h0 : g 0 0 = nI I) (h10 : g 0 10 = nI e) (h11 : g 0 11 = nI e) (h17 : g 0 17 = nI (K + 1)) (hK : K + 1 ≤ 40) (hh : (e + 1) % I = 0 → K + 1 < 40) :
    ∃ g', f_X6_live_162 g = some (1, g') ∧ (∀ r, r ≠ 0 → r ≠ 8 → r ≠ 9 → g' r = g r) ∧ (∀ k, k ≠ 10 → k ≠ 11 → k ≠ 17 → g' 0 k = g 0 k) ∧ g' 0 10 = nI (e + 1) ∧ g' 0 11 = nI (e + 1) ∧ g' 0 17 = nI ((e + 1) / I + 1) ∧ (∀ k, k < 32 → g' 9 k = if (e + 1) % I = 0 then 0 else g 9 k) ∧
      ((e + 1) % I = 0 → g' 8 (K + 1) = nI (cnt (g 9) 32)) ∧ ∀ k, k ≤ K → g' 8 k = g 8 k := by
  unfold f_X6_live_162
  rw [h0, h11, gd_pos (nI_n0 (by omega) (by omega)), nI_1]
  by_cases c : (e + 1) % I = 0
  · have hK1 := hh c
    obtain ⟨d1, -⟩ := div_hit (show 0 < I by omega) c
    rw [if_pos (by rw [rem_nI (by omega) (by omega) (by omega)]; exact c), wp_model, bR_pos rfl, h17, gd_pos (nI_in (by omega) (by decide)), nI_clamp (by omega), nI_1, u2_ne g _ _ _ 9 (by decide)]
    obtain ⟨g', e1, e2, e3, e4, e5⟩ := pass_model (g := u2 (u2 (u2 g 0 11 (nI (e + 1))) 8 (K + 1) (nI (cnt (g 9) 32))) 0 17 (nI (K + 1 + 1))) (p := e) hI (by simp [u2_app]; exact h0) (by omega) (by simp [u2_app]; exact h10)
    rw [e1, bV_pos rfl]
    refine ⟨g', rfl, fun r r0 r8 r9 => ?_, fun k k10 k11 k17 => ?_, e4, ?_, ?_, fun k hk => ?_, fun _ => ?_, fun k hk => ?_⟩
    · rw [e2 r r0 r9, u2_ne _ _ _ _ _ r0, u2_ne _ _ _ _ _ r8, u2_ne _ _ _ _ _ r0]
    · rw [e3 k k10]; simp [u2_app, k11, k17]
    · rw [e3 11 (by decide)]; simp [u2_app]
    · rw [e3 17 (by decide), d1, hKe]; simp [u2_app]
    · rw [e5 k hk, if_pos c, if_pos c]
    · rw [e2 8 (by decide) (by decide)]; simp [u2_app]
    · rw [e2 8 (by decide) (by decide)]; simp [u2_app, show k ≠ K + 1 by omega]
  · have d1 := div_miss (show 0 < I by omega) c
    rw [if_neg (by rw [rem_nI (by omega) (by omega) (by omega)]; exact c)]
    obtain ⟨g', e1, e2, e3, e4, e5⟩ := pass_model (g := u2 g 0 11 (nI (e + 1))) (p := e) hI (by simp [u2_app]; exact h0) (by omega) (by simp [u2_app]; exact h10)
    rw [e1, bV_pos rfl]
    refine ⟨g', rfl, fun r r0 r8 r9 => ?_, fun k k10 k11 k17 => ?_, e4, ?_, ?_, fun k hk => ?_, fun z => absurd z c, fun k hk => ?_⟩
    · rw [e2 r r0 r9, u2_ne _ _ _ _ _ r0]
    · rw [e3 k k10]; simp [u2_app, k11]
    · rw [e3 11 (by decide)]; simp [u2_app]
    · rw [e3 17 (by decide), d1, hKe]; simp [u2_app]; exact h17
    · rw [e5 k hk, if_neg c, if_neg c, u2_ne _ _ _ _ _ (by decide)]
    · rw [e2 8 (by decide) (by decide), u2_ne _ _ _ _ _ (by decide)]
/-- the reference goes on live -/
theorem MI_live {g : hp} {I e n' : Nat} {L : Nat → Option (Int32 × Int32)} {q' : Nat → Nat} {kd' vl' f : Nat → Int32} {w' : Nat} {ip' : Nat → Int32} {rg' : Int32} {ev : Option (Int32 × Int32)} (hI : 2 ≤ I ∧ I ≤ 64) (hK : e / I + 1 ≤ 40) (he : e < 2560) (hinc : inc q' n') (hq : ∀ i, i < n' → q' i < e + 1) (hL : ∀ k, k < e → LG q' kd' vl' n' k = L k) (hLe : LG q' kd' vl' n' e = ev)
    (hR : ¬ RMF I e (FPs I L f (e / I + 1)) (AA ev (SS I L f e)))
    (m0 : g 0 0 = nI I ∧ g 0 9 = 1 ∧ g 0 11 = nI e ∧ g 0 15 = nI n' ∧ g 0 17 = nI (e / I + 1) ∧ g 0 21 = nI w' ∧ g 0 22 = rg') (m16 : g 0 16 = nI n')
    (mr : (∀ k, k < 512 → g 1 k = f k) ∧ (∀ i, i < n' → g 5 i = nI (q' i) ∧ g 6 i = kd' i ∧ g 7 i = vl' i) ∧ (∀ k, k < e / I + 1 → g 8 k = nI (pgs I L f k)) ∧ ∀ i, i < w' → g 10 i = ip' i) (hME : ME g (SS I L f e)) (hKE : KE (SS I L f e) g) :
    ∃ g', f_X6_live_162 (act ev g) = some (1, g') ∧ MI I (e + 1) (e + 1) n' q' kd' vl' f w' ip' rg' g' := by
  obtain ⟨hv, h10, m, hm, h8⟩ := SS_ok I L f e
  obtain ⟨m0, m9, m11, m15, m17, m21, m22⟩ := m0
  obtain ⟨m1, m5, m8, m10⟩ := mr
  have hvg : vld g := ME_vld (ME_sy hME) hv
  obtain ⟨f1, f2⟩ := act_frame hvg ev
  have hMa : ME (act ev g) (act ev (SS I L f e)) := ME_sy (ME_act (ME_sy hME) hv ev)
  have hKa := KE_act (ME_sy hME) hKE hv (show m < 2 ^ 30 by omega) h8 ev
  have hSe : SS I (LG q' kd' vl' n') f (e + 1) = pas I e (act ev (SS I L f e)) := by
    rw [SS_succ, hLe, SS_congr hL]
  have fz : ∀ k, k ≠ 4 → k ≠ 5 → k ≠ 6 → k ≠ 8 → act ev g 0 k = g 0 k := f2
  obtain ⟨g', e1, e2, e3, e4, e5, e6, e7, e8, e9⟩ := live162_model (g := act ev g) (K := e / I) hI (by omega) rfl (by rw [fz 0 (by decide) (by decide) (by decide) (by decide)]; exact m0) (by rw [fz 10 (by decide) (by decide) (by decide) (by decide), hME.r10]; exact h10) (by rw [fz 11 (by decide) (by decide) (by decide) (by decide)]; exact m11)
    (by rw [fz 17 (by decide) (by decide) (by decide) (by decide)]; exact m17) hK (fun c => Nat.lt_of_le_of_ne hK (fun z => hR ⟨c, Or.inl z⟩))
  refine ⟨g', e1, ⟨?_, ?_, e5, ?_, e6, ?_, ?_⟩, ?_, ⟨?_, ?_, ?_, ?_⟩, ?_, ?_⟩
  · rw [e3 0 (by decide) (by decide) (by decide), fz 0 (by decide) (by decide) (by decide) (by decide)]; exact m0
  · rw [e3 9 (by decide) (by decide) (by decide), fz 9 (by decide) (by decide) (by decide) (by decide)]; exact m9
  · rw [e3 15 (by decide) (by decide) (by decide), fz 15 (by decide) (by decide) (by decide) (by decide)]; exact m15
  · rw [e3 21 (by decide) (by decide) (by decide), fz 21 (by decide) (by decide) (by decide) (by decide)]; exact m21
  · rw [e3 22 (by decide) (by decide) (by decide), fz 22 (by decide) (by decide) (by decide) (by decide)]; exact m22
  · rw [e3 16 (by decide) (by decide) (by decide), fz 16 (by decide) (by decide) (by decide) (by decide), m16, cb_all hinc hq]
  · rw [e2 1 (by decide) (by decide) (by decide), f1 1 (by decide) (by decide) (by decide) (by decide) (by decide)]; exact m1
  · rw [e2 5 (by decide) (by decide) (by decide), e2 6 (by decide) (by decide) (by decide), e2 7 (by decide) (by decide) (by decide), f1 5 (by decide) (by decide) (by decide) (by decide) (by decide), f1 6 (by decide) (by decide) (by decide) (by decide) (by decide), f1 7 (by decide) (by decide) (by decide) (by decide) (by decide)]; exact m5
  · intro k hk
    have hold : ∀ j, j < e / I + 1 → g' 8 j = nI (pgs I (LG q' kd' vl' n') f j) := by
      intro j hj
      rw [e9 j (Nat.lt_succ_iff.mp hj), f1 8 (by decide) (by decide) (by decide) (by decide) (by decide), m8 j hj]
      rw [pgs_congr (L := LG q' kd' vl' n') (L' := L) (show 0 < I by omega) (fun z hz => hL z (by have := Nat.mul_le_mul_right I (Nat.lt_succ_iff.mp hj); have := Nat.div_mul_le_self e I; omega))]
    by_cases c : (e + 1) % I = 0
    · obtain ⟨d1, d2⟩ := div_hit (show 0 < I by omega) c
      rw [d1] at hk
      by_cases z : k = e / I + 1
      · subst z
        rw [e8 c]
        congr 1
        unfold pgs
        refine cnt_congr 32 (fun j hj => ?_)
        unfold flg
        rw [if_neg (Nat.succ_ne_zero _), d2]
        show _ = act (LG q' kd' vl' n' e) (SS I (LG q' kd' vl' n') f e) 9 j
        rw [hLe, SS_congr hL]
        exact hMa.wr hj
      · exact hold k (by generalize e / I = K at *; omega)
    · rw [div_miss (show 0 < I by omega) c] at hk
      exact hold k hk
  · rw [e2 10 (by decide) (by decide) (by decide), f1 10 (by decide) (by decide) (by decide) (by decide) (by decide)]; exact m10
  · rw [hSe]
    refine ME.of ?_ ?_ ?_ ?_ ?_ (fun k hk => ?_) (fun k hk => ?_) (fun k hk => ?_)
    · rw [e3 4 (by decide) (by decide) (by decide), pas_0 (by decide)]; exact hMa.r4
    · rw [e3 5 (by decide) (by decide) (by decide), pas_0 (by decide)]; exact hMa.r5
    · rw [e3 6 (by decide) (by decide) (by decide), pas_0 (by decide)]; exact hMa.r6
    · rw [e3 8 (by decide) (by decide) (by decide), pas_0 (by decide)]; exact hMa.r8
    · rw [e4, pas_10]
    · rw [e2 2 (by decide) (by decide) (by decide), pas_row (by decide) (by decide)]; exact hMa.mem hk
    · rw [e2 3 (by decide) (by decide) (by decide), pas_row (by decide) (by decide)]; exact hMa.reg hk
    · rw [e7 k hk, pas_9, hMa.wr hk]
  · rw [hSe]
    intro k hk hlt
    rw [pas_0 (by decide)] at hlt
    rw [pas_row (by decide) (by decide), e2 4 (by decide) (by decide) (by decide)]
    exact hKa k hk hlt
end PU
