/-! THE PURE SIDE, 9: what the snapshots hold; going back to one -/
section PU
def flg (I : Nat) (L : Nat → Option (Int32 × Int32)) (f : Nat → Int32) (k j : Nat) : Int32 := if k = 0 then 0 else Uq I L (ini f) (k * I - 1) 9 j
def pgs (I : Nat) (L : Nat → Option (Int32 × Int32)) (f : Nat → Int32) (k : Nat) : Nat := cnt (flg I L f k) 32
def FPs (I : Nat) (L : Nat → Option (Int32 × Int32)) (f : Nat → Int32) (k : Nat) : Nat := sm (pgs I L f) k
def SS (I : Nat) (L : Nat → Option (Int32 × Int32)) (f : Nat → Int32) (p : Nat) : hp := Sq I L (ini f) p
theorem ini_vld (f : Nat → Int32) : vld (ini f) := ⟨⟨0, by decide, rfl⟩, ⟨0, by decide, rfl⟩, Or.inl rfl, fun _ _ => Or.inl rfl⟩
theorem SS_ok (I : Nat) (L : Nat → Option (Int32 × Int32)) (f : Nat → Int32) (p : Nat) : vld (SS I L f p) ∧ SS I L f p 0 10 = nI p ∧ ∃ m, m ≤ p ∧ SS I L f p 0 8 = nI m := Sq_ok (ini_vld f) rfl rfl p
theorem SS_succ (I : Nat) (L : Nat → Option (Int32 × Int32)) (f : Nat → Int32) (p : Nat) : SS I L f (p + 1) = pas I p (act (L p) (SS I L f p)) := rfl
theorem SS_congr {I : Nat} {L L' : Nat → Option (Int32 × Int32)} {f : Nat → Int32} {p : Nat} (h : ∀ q, q < p → L q = L' q) : SS I L f p = SS I L' f p := Sq_congr p h
theorem Uq_congr {I : Nat} {L L' : Nat → Option (Int32 × Int32)} {f : Nat → Int32} {p : Nat} (h : ∀ q, q < p + 1 → L q = L' q) : Uq I L (ini f) p = Uq I L' (ini f) p := by
  unfold Uq
  rw [h p (by omega), Sq_congr p (fun q hq => h q (by omega))]
theorem flg_congr {I : Nat} {L L' : Nat → Option (Int32 × Int32)} {f : Nat → Int32} {k : Nat} (hI : 0 < I) (h : ∀ q, q < k * I → L q = L' q) : flg I L f k = flg I L' f k := by
  funext j
  unfold flg
  by_cases hk : k = 0
  · rw [if_pos hk, if_pos hk]
  · rw [if_neg hk, if_neg hk, Uq_congr (fun q hq => h q (by have : 0 < k * I := Nat.mul_pos (by omega) hI; omega))]
theorem pgs_congr {I : Nat} {L L' : Nat → Option (Int32 × Int32)} {f : Nat → Int32} {k : Nat} (hI : 0 < I) (h : ∀ q, q < k * I → L q = L' q) : pgs I L f k = pgs I L' f k := by
  unfold pgs
  rw [flg_congr hI h]
theorem FPs_congr {I : Nat} {L L' : Nat → Option (Int32 × Int32)} {f : Nat → Int32} {k e : Nat} (hI : 0 < I) (hk : k ≤ e / I + 1) (h : ∀ q, q < e → L q = L' q) : FPs I L f k = FPs I L' f k := by
  refine sm_congr k (fun j hj => pgs_congr hI (fun q hq => h q ?_))
  have h1 : j * I ≤ (e / I) * I := Nat.mul_le_mul_right I (by omega)
  have h2 := Nat.div_mul_le_self e I
  omega
/-- flags of a history's machine are 0 or 1; where a snapshot lies they are 0 -/
theorem SS_9 {I : Nat} {L : Nat → Option (Int32 × Int32)} {f : Nat → Int32} (hI : 0 < I) (k j : Nat) : SS I L f (k * I) 9 j = 0 := by
  by_cases hk : k = 0
  · subst hk
    rw [Nat.zero_mul]; rfl
  · obtain ⟨p, hp⟩ : ∃ p, k * I = p + 1 := ⟨k * I - 1, by have : 0 < k * I := Nat.mul_pos (by omega) hI; omega⟩
    rw [hp, SS_succ, pas_9, if_pos (by rw [← hp]; exact Nat.mul_mod_left k I)]
/-- a page that wasn't written is as it was at the snapshot before -/
theorem unwritten {I : Nat} {L : Nat → Option (Int32 × Int32)} {f : Nat → Int32} (hI : 0 < I) (k : Nat) {x : Nat} (hx : x < 512) : ∀ t, t < I → Uq I L (ini f) (k * I + t) 9 (x / 16) = 0 → Uq I L (ini f) (k * I + t) 2 x = SS I L f (k * I) 2 x := by
  intro t
  induction t with
  | zero =>
    intro _ h
    have hs := act_stepped (SS_ok I L f (k * I)).1 (L (k * I))
    rcases hs.2.2.2.2.2 x hx with e | e
    · exact e
    · have h' : act (L (k * I)) (SS I L f (k * I)) 9 (x / 16) = 0 := h
      rw [h'] at e
      exact absurd e (by decide)
  | succ t ih =>
    intro ht h
    have hs := act_stepped (SS_ok I L f (k * I + (t + 1))).1 (L (k * I + (t + 1)))
    have h' : act (L (k * I + (t + 1))) (SS I L f (k * I + (t + 1))) 9 (x / 16) = 0 := h
    have hm : ¬ (k * I + t + 1) % I = 0 := by
      rw [Nat.add_assoc, Nat.mul_add_mod_self_right, Nat.mod_eq_of_lt (by omega)]
      omega
    have e9 : SS I L f (k * I + (t + 1)) 9 (x / 16) = Uq I L (ini f) (k * I + t) 9 (x / 16) := by
      show SS I L f (k * I + t + 1) 9 (x / 16) = _
      rw [SS_succ, pas_9, if_neg hm]; rfl
    have e2 : SS I L f (k * I + (t + 1)) 2 x = Uq I L (ini f) (k * I + t) 2 x := by
      show SS I L f (k * I + t + 1) 2 x = _
      rw [SS_succ, pas_row (by decide) (by decide)]; rfl
    have z9 : SS I L f (k * I + (t + 1)) 9 (x / 16) = 0 := by
      rcases (SS_ok I L f (k * I + (t + 1))).1.2.2.2 (x / 16) (by omega) with z | z
      · exact z
      · have := hs.2.2.2.1 _ z
        rw [h'] at this
        exact absurd this (by decide)
    rcases hs.2.2.2.2.2 x hx with e | e
    · show act (L (k * I + (t + 1))) (SS I L f (k * I + (t + 1))) 2 x = _
      rw [e, e2]
      exact ih (by omega) (by rw [← e9]; exact z9)
    · rw [h'] at e
      exact absurd e (by decide)
theorem unwritten_k {I : Nat} {L : Nat → Option (Int32 × Int32)} {f : Nat → Int32} (hI : 0 < I) (k : Nat) {x : Nat} (hx : x < 512) (h : flg I L f (k + 1) (x / 16) = 0) : SS I L f ((k + 1) * I) 2 x = SS I L f (k * I) 2 x := by
  have he : (k + 1) * I = k * I + (I - 1) + 1 := by rw [Nat.add_mul]; omega
  have hf : flg I L f (k + 1) (x / 16) = Uq I L (ini f) (k * I + (I - 1)) 9 (x / 16) := by
    unfold flg
    rw [if_neg (by omega), he]
    rfl
  rw [hf] at h
  rw [he, SS_succ, pas_row (by decide) (by decide)]
  exact unwritten hI k hx (I - 1) (by omega) h
/-- what the class's snapshots hold -/
def SNP (h : hp) (I : Nat) (L : Nat → Option (Int32 × Int32)) (f : Nat → Int32) (K : Nat) : Prop :=
  (h 11 3 = nI (K + 1) ∧ h 11 4 = nI (FPs I L f (K + 1)) ∧ ∀ x, x < 512 → h 12 x = f x) ∧
  ∀ k, k ≤ K → (h (k + 15) 1 = SS I L f (k * I) 0 4 ∧ h (k + 15) 2 = SS I L f (k * I) 0 5 ∧ h (k + 15) 3 = SS I L f (k * I) 0 6 ∧ h (k + 15) 4 = SS I L f (k * I) 0 8 ∧ (∀ j, j < 32 → bitv (h (k + 15) 5) j = flg I L f k j) ∧ h (k + 15) 6 = nI (FPs I L f k)) ∧
    (∀ i, i < 8 → h (k + 55) i = SS I L f (k * I) 3 i) ∧ ∀ j, j < 32 → flg I L f k j ≠ 0 → ∀ t, t < 16 → h 13 ((FPs I L f k + cnt (flg I L f k) j) * 16 + t) = SS I L f (k * I) 2 (j * 16 + t)
theorem SNP_rows {h h' : hp} {I : Nat} {L : Nat → Option (Int32 × Int32)} {f : Nat → Int32} {K : Nat} (hs : SNP h I L f K) (e : ∀ i, 11 ≤ i → h' i = h i) : SNP h' I L f K := by
  obtain ⟨⟨a1, a2, a3⟩, a4⟩ := hs
  refine ⟨⟨by rw [e 11 (by omega)]; exact a1, by rw [e 11 (by omega)]; exact a2, by rw [e 12 (by omega)]; exact a3⟩, fun k hk => ?_⟩
  obtain ⟨b1, b2, b3⟩ := a4 k hk
  rw [e (k + 15) (by omega), e (k + 55) (by omega), e 13 (by omega)]
  exact ⟨b1, b2, b3⟩
theorem restore_loop {I : Nat} {L : Nat → Option (Int32 × Int32)} {f : Nat → Int32} {K k : Nat} (hI : 0 < I) (hK : K < 40) (hk : k ≤ K) (hF : FPs I L f (K + 1) ≤ 300) : ∀ m i (h : hp), i ≤ k → k - i < m → SNP h I L f K → (∀ x, x < 512 → h 3 x = SS I L f (i * I) 2 x) →
    ∃ h', f_X4_restore_18 m h (nI k) (nI (i + 1)) = some h' ∧ (∀ r, r ≠ 1 → r ≠ 2 → r ≠ 3 → h' r = h r) ∧ (h' 1 3 = SS I L f (k * I) 0 4 ∧ h' 1 4 = SS I L f (k * I) 0 5 ∧ h' 1 5 = SS I L f (k * I) 0 6 ∧ h' 1 6 = SS I L f (k * I) 0 8 ∧ h' 1 7 = 0) ∧ (∀ j, j < 8 → h' 2 j = SS I L f (k * I) 3 j) ∧ ∀ x, x < 512 → h' 3 x = SS I L f (k * I) 2 x := by
  intro m
  induction m with
  | zero => intro i h h1 h2; omega
  | succ m ih =>
    intro i h h1 h2 hs hm
    rw [f_X4_restore_18]
    by_cases c : k < i + 1
    · obtain rfl : i = k := by omega
      rw [if_pos (nI_lt (by omega) (by omega)), gd_pos (nI_in (by omega) (by decide)), nI_clamp (by omega)]
      obtain ⟨⟨b1, b2, b3, b4, b5, b6⟩, b7, b8⟩ := hs.2 i hk
      unfold f_X3_giveBackTo
      rw [gd_pos (by rw [b3]; exact (SS_ok I L f (i * I)).1.2.2.1), bV_pos rfl]
      refine ⟨_, rfl, fun r r1 r2 r3 => ?_, ⟨?_, ?_, ?_, ?_, ?_⟩, fun j hj => ?_, fun x hx => ?_⟩
      · rw [u2_ne _ _ _ _ _ r1, u2_ne _ _ _ _ _ r1, u2_ne _ _ _ _ _ r1, u2_ne _ _ _ _ _ r1, u2_ne _ _ _ _ _ r1, vu_ne _ _ _ r2]
      · simpa [u2_app] using b1
      · simpa [u2_app] using b2
      · simpa [u2_app] using b3
      · simpa [u2_app] using b4
      · simp [u2_app]
      · rw [u2_ne _ _ _ _ _ (by decide), u2_ne _ _ _ _ _ (by decide), u2_ne _ _ _ _ _ (by decide), u2_ne _ _ _ _ _ (by decide), u2_ne _ _ _ _ _ (by decide), vu_at,
          show (0 : Int32).toNatClampNeg = 0 from by decide, show (8 : Int32).toNatClampNeg = 8 from by decide, cpy_in (by omega) (by omega), ← b7 j hj]
        congr 1; omega
      · rw [u2_ne _ _ _ _ _ (by decide), u2_ne _ _ _ _ _ (by decide), u2_ne _ _ _ _ _ (by decide), u2_ne _ _ _ _ _ (by decide), u2_ne _ _ _ _ _ (by decide), vu_ne _ _ _ (by decide)]
        exact hm x hx
    · rw [if_neg (nI_nlt (by omega) (by omega)), gd_pos (nI_in (by omega) (by decide)), nI_clamp (by omega)]
      obtain ⟨⟨b1, b2, b3, b4, b5, b6⟩, b7, b8⟩ := hs.2 (i + 1) (by omega)
      have hFi : FPs I L f (i + 1) + cnt (flg I L f (i + 1)) 32 ≤ 300 := by
        have : FPs I L f (i + 1 + 1) ≤ FPs I L f (K + 1) := sm_mono _ (by omega)
        have e : FPs I L f (i + 1 + 1) = FPs I L f (i + 1) + cnt (flg I L f (i + 1)) 32 := rfl
        omega
      obtain ⟨h1', e1, e2, e3, e4⟩ := lay_loop (k := i + 1) (F := FPs I L f (i + 1)) (r := flg I L f (i + 1)) hFi (by omega) 1000 0 h (by omega) (by omega) b5
      have el : f_X4_layPages h (i + 1) = some h1' := by
        unfold f_X4_layPages
        simp only [gl]
        rw [b6]
        exact e1
      rw [el, bV_pos rfl, nI_1]
      obtain ⟨h', g1, g2, g3, g4, g5⟩ := ih (i + 1) h1' (by omega) (by omega) (SNP_rows hs (fun r hr => e2 r (by omega))) (fun x hx => by
        rw [e4 x hx (Nat.zero_le _)]
        by_cases z : flg I L f (i + 1) (x / 16) = 0
        · rw [if_pos z, hm x hx, unwritten_k hI i hx z]
        · rw [if_neg z, b8 (x / 16) (by omega) z (x % 16) (by omega)]
          congr 1; omega)
      exact ⟨h', g1, fun r r1 r2 r3 => by rw [g2 r r1 r2 r3, e2 r r3], g3, g4, g5⟩
theorem restore_class {h : hp} {I : Nat} {L : Nat → Option (Int32 × Int32)} {f : Nat → Int32} {K k : Nat} (hI : 0 < I) (hK : K < 40) (hk : k ≤ K) (hF : FPs I L f (K + 1) ≤ 300) (hs : SNP h I L f K) :
    ∃ h', f_X4_restore h (nI k) = some h' ∧ (∀ r, r ≠ 1 → r ≠ 2 → r ≠ 3 → h' r = h r) ∧ (h' 1 3 = SS I L f (k * I) 0 4 ∧ h' 1 4 = SS I L f (k * I) 0 5 ∧ h' 1 5 = SS I L f (k * I) 0 6 ∧ h' 1 6 = SS I L f (k * I) 0 8 ∧ h' 1 7 = 0) ∧ (∀ j, j < 8 → h' 2 j = SS I L f (k * I) 3 j) ∧ ∀ x, x < 512 → h' 3 x = SS I L f (k * I) 2 x := by
  unfold f_X4_restore
  obtain ⟨h', g1, g2, g3⟩ := restore_loop (k := k) hI hK hk hF 1000 0 (va_up h 3 (va_cpy (h 12) (h 3) (0 : Int32).toNatClampNeg (0 : Int32).toNatClampNeg (512 : Int32).toNatClampNeg)) (Nat.zero_le _) (by omega)
    (SNP_rows hs (fun r hr => by rw [vu_ne _ _ _ (by omega)])) (fun x hx => by
      rw [vu_at, show (0 : Int32).toNatClampNeg = 0 from by decide, show (512 : Int32).toNatClampNeg = 512 from by decide, cpy_in (by omega) (by omega), Nat.zero_mul]
      rw [show 0 + (x - 0) = x by omega, hs.1.2.2 x hx]
      rfl)
  exact ⟨h', g1, fun r r1 r2 r3 => by rw [g2 r r1 r2 r3, vu_ne _ _ _ r3], g3⟩
end PU
