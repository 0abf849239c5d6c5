/-! THE PURE SIDE, 8: the class's snapshots: a page's bit, the loop that takes pages, the loop that lays them -/
section PU
theorem s_u32 : ∀ n, n < 32 → (((nI n).toUInt32 &&& Int32.toUInt32 31).toBitVec % 32).toNat = n := by decide +kernel
theorem bitv_01 (w : Int32) (k : Nat) : bitv w k = 0 ∨ bitv w k = 1 := by
  unfold bitv
  by_cases h : k < 32 ∧ w.toBitVec.getLsbD k = true
  · rw [if_pos h]; exact Or.inr rfl
  · rw [if_neg h]; exact Or.inl rfl
theorem hasPage_ok {h : hp} {k j : Nat} (hj : j < 32) : f_X3_hasPage h k (nI j) = some (bitv (h (k + 15) 5) j) := by
  unfold f_X3_hasPage
  generalize h (k + 15) 5 = w
  have e : uN32 (((w.toUInt32 >>> ((nI j).toUInt32 &&& Int32.toUInt32 31)).toInt32) &&& 1) = uN32 w / 2 ^ j % 2 := by
    rw [uN32_and, uN32_ush _ _ j (s_u32 j hj), show uN32 1 = 1 from by decide +kernel]
    exact Nat.and_two_pow_sub_one_eq_mod _ 1
  have hb := bit_if w j hj
  have hx := uN32_nI (((w.toUInt32 >>> ((nI j).toUInt32 &&& Int32.toUInt32 31)).toInt32) &&& 1)
  rw [e] at hx
  rw [hx, ← hb]
  rcases bitv_01 w j with z | z
  · rw [z]; decide
  · rw [z]; decide
theorem cpy_in {f g : Nat → Int32} {sp dp n j : Nat} (h : dp ≤ j) (h2 : j < dp + n) : va_cpy f g sp dp n j = f (sp + (j - dp)) := by
  unfold va_cpy
  rw [if_pos ⟨h, h2⟩]
theorem cpy_out {f g : Nat → Int32} {sp dp n j : Nat} (h : j < dp ∨ dp + n ≤ j) : va_cpy f g sp dp n j = g j := by
  unfold va_cpy
  rw [if_neg (by omega)]
theorem nI_m16 (a : Nat) : nI a * 16 = nI (a * 16) := pk_mul a 16
/-- taking a snapshot's pages -/
theorem add_loop {k F : Nat} {r : Nat → Int32} (hF : F + cnt r 32 ≤ 300) (hk11 : k + 15 ≠ 11) : ∀ m j (h : hp), j ≤ 32 → 32 - j < m → (∀ i, i < 32 → bitv (h (k + 15) 5) i = r i) → h 11 4 = nI (F + cnt r j) →
    ∃ h', f_X4_add_25 m h k (nI j) = some h' ∧ (∀ i, i ≠ 11 → i ≠ 13 → h' i = h i) ∧ h' 11 3 = h 11 3 + 1 ∧ h' 11 4 = nI (F + cnt r 32) ∧
      (∀ x, x < (F + cnt r j) * 16 → h' 13 x = h 13 x) ∧ ∀ i, j ≤ i → i < 32 → r i ≠ 0 → ∀ t, t < 16 → h' 13 ((F + cnt r i) * 16 + t) = h 3 (i * 16 + t) := by
  intro m
  induction m with
  | zero => intro j h h1 h2; omega
  | succ m ih =>
    intro j h h1 h2 hr h4
    rw [f_X4_add_25]
    by_cases c : 32 ≤ j
    · obtain rfl : j = 32 := by omega
      rw [if_pos (by decide)]
      refine ⟨_, rfl, fun i a1 a2 => by rw [u2_ne _ _ _ _ _ a1], by simp [u2_app], by simpa [u2_app] using h4, fun x hx => by simp [u2_app], fun i a1 a2 => by omega⟩
    · rw [if_neg (show ¬ (32 : Int32) ≤ nI j from nI_ge (b := 32) (by omega) (by decide)), hasPage_ok (by omega), hr j (by omega)]
      rw [bR_pos rfl, nI_1]
      have hcj := cnt_mono r (show j ≤ 32 by omega)
      have hcj1 := cnt_mono r (show j + 1 ≤ 32 by omega)
      by_cases z : r j = 0
      · rw [if_pos z]
        have e : cnt r (j + 1) = cnt r j := by
          show cnt r j + (if r j = 0 then 0 else 1) = _
          rw [if_pos z]; omega
        obtain ⟨h', e1, e2, e3, e4, e5, e6⟩ := ih (j + 1) h (by omega) (by omega) hr (by rw [e]; exact h4)
        refine ⟨h', e1, e2, e3, e4, fun x hx => e5 x (by rw [e]; exact hx), fun i a1 a2 a3 => ?_⟩
        rcases Nat.lt_or_ge j i with y | y
        · exact e6 i (by omega) a2 a3
        · obtain rfl : i = j := by omega
          exact absurd z a3
      · rw [if_neg z]
        have e : cnt r (j + 1) = cnt r j + 1 := by
          show cnt r j + (if r j = 0 then 0 else 1) = _
          rw [if_neg z]
        rw [h4, nI_m16, nI_m16]
        have hg : (¬ nI (j * 16) < 0 ∧ ¬ nI ((F + cnt r j) * 16) < 0 ∧ ¬ (16 : Int32) < 0) ∧ (nI (j * 16)).toNatClampNeg + (16 : Int32).toNatClampNeg ≤ 512 ∧ (nI ((F + cnt r j) * 16)).toNatClampNeg + (16 : Int32).toNatClampNeg ≤ 4800 := by
          refine ⟨⟨nI_pos (by omega), nI_pos (by omega), by decide⟩, ?_, ?_⟩
          · rw [nI_clamp (by omega), show (16 : Int32).toNatClampNeg = 16 from by decide]; omega
          · rw [nI_clamp (by omega), show (16 : Int32).toNatClampNeg = 16 from by decide]; omega
        rw [gd_pos hg, nI_clamp (by omega), nI_clamp (by omega), show (16 : Int32).toNatClampNeg = 16 from by decide, nI_1]
        obtain ⟨h', e1, e2, e3, e4, e5, e6⟩ := ih (j + 1) (u2 (va_up h 13 (va_cpy (h 3) (h 13) (j * 16) ((F + cnt r j) * 16) 16)) 11 4 (nI (F + cnt r j + 1))) (by omega) (by omega)
          (fun i hi => by rw [u2_ne _ _ _ _ _ hk11, vu_ne _ _ _ (by omega)]; exact hr i hi) (by simp [u2_app, e]; congr 1)
        refine ⟨h', e1, fun i a1 a2 => ?_, ?_, e4, fun x hx => ?_, fun i a1 a2 a3 t ht => ?_⟩
        · rw [e2 i a1 a2, u2_ne _ _ _ _ _ a1, vu_ne _ _ _ a2]
        · rw [e3]
          simp [u2_app]
          rw [vu_ne _ _ _ (by decide)]
        · rw [e5 x (by rw [e]; omega), u2_ne _ _ _ _ _ (by decide), vu_at, cpy_out (by omega)]
        · rcases Nat.lt_or_ge j i with y | y
          · rw [e6 i (by omega) a2 a3 t ht, u2_ne _ _ _ _ _ (by decide), vu_ne _ _ _ (by decide)]
          · obtain rfl : i = j := by omega
            rw [e5 _ (by rw [e]; omega), u2_ne _ _ _ _ _ (by decide), vu_at, cpy_in (by omega) (by omega)]
            congr 1; omega
/-- a snapshot is taken -/
theorem add_class {h : hp} {K F : Nat} (hK : K < 40) (h3 : h 11 3 = nI K) (h4 : h 11 4 = nI F) (hF : F + cnt (bitv (h 1 7)) 32 ≤ 300) (ho : h 1 5 = 0 ∨ h 1 5 = 1) :
    ∃ h', f_X4_add h = some h' ∧ (∀ i, i ≠ 11 → i ≠ 13 → i ≠ K + 15 → i ≠ K + 55 → h' i = h i) ∧ h' 11 3 = nI (K + 1) ∧ h' 11 4 = nI (F + cnt (bitv (h 1 7)) 32) ∧
      (h' (K + 15) 1 = h 1 3 ∧ h' (K + 15) 2 = h 1 4 ∧ h' (K + 15) 3 = h 1 5 ∧ h' (K + 15) 4 = h 1 6 ∧ h' (K + 15) 5 = h 1 7 ∧ h' (K + 15) 6 = nI F) ∧ (∀ i, i < 8 → h' (K + 55) i = h 2 i) ∧
      (∀ x, x < F * 16 → h' 13 x = h 13 x) ∧ ∀ i, i < 32 → bitv (h 1 7) i ≠ 0 → ∀ t, t < 16 → h' 13 ((F + cnt (bitv (h 1 7)) i) * 16 + t) = h 3 (i * 16 + t) := by
  unfold f_X4_add
  rw [h3, gd_pos (nI_in hK (by decide)), nI_clamp (by omega)]
  unfold f_X3_takeFrom
  rw [gd_pos ho, bV_pos rfl]
  generalize hb : (u2 (u2 (u2 (u2 (u2 (va_up h (K + 55) (va_cpy (h 2) (h (K + 55)) (0 : Int32).toNatClampNeg (0 : Int32).toNatClampNeg (8 : Int32).toNatClampNeg)) (K + 15) 1 (h 1 3)) (K + 15) 2 (h 1 4)) (K + 15) 3 (h 1 5)) (K + 15) 4 (h 1 6)) (K + 15) 5 (h 1 7)) = b
  have hrow : ∀ i, i ≠ K + 15 → i ≠ K + 55 → b i = h i := by
    intro i a1 a2
    rw [← hb, u2_ne _ _ _ _ _ a1, u2_ne _ _ _ _ _ a1, u2_ne _ _ _ _ _ a1, u2_ne _ _ _ _ _ a1, u2_ne _ _ _ _ _ a1, vu_ne _ _ _ a2]
  have b4 : b 11 4 = nI F := by rw [hrow 11 (by omega) (by omega)]; exact h4
  rw [b4]
  obtain ⟨h', e1, e2, e3, e4, e5, e6⟩ := add_loop (k := K) (F := F) (r := bitv (h 1 7)) hF (by omega) 1000 0 (u2 b (K + 15) 6 (nI F)) (by omega) (by omega)
    (fun i hi => by simp [u2_app, ← hb]) (by rw [u2_ne _ _ _ _ _ (by omega), b4]; rfl)
  refine ⟨h', e1, fun i a1 a2 a3 a4 => ?_, ?_, e4, ?_, fun i hi => ?_, fun x hx => ?_, fun i hi hr t ht => ?_⟩
  · rw [e2 i a1 a2, u2_ne _ _ _ _ _ a3, hrow i a3 a4]
  · rw [e3, u2_ne _ _ _ _ _ (by omega), hrow 11 (by omega) (by omega), h3, nI_1]
  · rw [e2 (K + 15) (by omega) (by omega)]
    refine ⟨?_, ?_, ?_, ?_, ?_, ?_⟩ <;> simp [u2_app, ← hb]
  · rw [e2 (K + 55) (by omega) (by omega), u2_ne _ _ _ _ _ (by omega), ← hb, u2_ne _ _ _ _ _ (by omega), u2_ne _ _ _ _ _ (by omega), u2_ne _ _ _ _ _ (by omega), u2_ne _ _ _ _ _ (by omega), u2_ne _ _ _ _ _ (by omega), vu_at]
    rw [show (0 : Int32).toNatClampNeg = 0 from by decide, show (8 : Int32).toNatClampNeg = 8 from by decide, cpy_in (by omega) (by omega)]
    congr 1; omega
  · rw [e5 x (by simpa [cnt] using hx), u2_ne _ _ _ _ _ (by omega), hrow 13 (by omega) (by omega)]
  · rw [e6 i (Nat.zero_le _) hi hr t ht, u2_ne _ _ _ _ _ (by omega), hrow 3 (by omega) (by omega)]
/-- a snapshot's pages are laid into the memory -/
theorem lay_loop {k F : Nat} {r : Nat → Int32} (hF : F + cnt r 32 ≤ 300) (hk3 : k + 15 ≠ 3) : ∀ m j (h : hp), j ≤ 32 → 32 - j < m → (∀ i, i < 32 → bitv (h (k + 15) 5) i = r i) →
    ∃ h', f_X4_layPages_8 m h k (nI (F + cnt r j)) (nI j) = some h' ∧ (∀ i, i ≠ 3 → h' i = h i) ∧ (∀ x, x < 512 → x / 16 < j → h' 3 x = h 3 x) ∧
      ∀ x, x < 512 → j ≤ x / 16 → h' 3 x = if r (x / 16) = 0 then h 3 x else h 13 ((F + cnt r (x / 16)) * 16 + x % 16) := by
  intro m
  induction m with
  | zero => intro j h h1 h2; omega
  | succ m ih =>
    intro j h h1 h2 hr
    rw [f_X4_layPages_8]
    by_cases c : 32 ≤ j
    · obtain rfl : j = 32 := by omega
      rw [if_pos (by decide)]
      exact ⟨h, rfl, fun _ _ => rfl, fun _ _ _ => rfl, fun x h1 h2 => by omega⟩
    · rw [if_neg (show ¬ (32 : Int32) ≤ nI j from nI_ge (b := 32) (by omega) (by decide)), hasPage_ok (by omega), hr j (by omega)]
      rw [bR_pos rfl, nI_1]
      have hcj := cnt_mono r (show j ≤ 32 by omega)
      have hcj1 := cnt_mono r (show j + 1 ≤ 32 by omega)
      by_cases z : r j = 0
      · rw [if_pos z]
        have e : cnt r (j + 1) = cnt r j := by
          show cnt r j + (if r j = 0 then 0 else 1) = _
          rw [if_pos z]; omega
        obtain ⟨h', e1, e2, e3, e4⟩ := ih (j + 1) h (by omega) (by omega) hr
        rw [e] at e1
        refine ⟨h', e1, e2, fun x a1 a2 => e3 x a1 (by omega), fun x a1 a2 => ?_⟩
        rcases Nat.lt_or_ge j (x / 16) with y | y
        · exact e4 x a1 (by omega)
        · have hxj : x / 16 = j := by omega
          rw [hxj, if_pos z]
          exact e3 x a1 (by omega)
      · rw [if_neg z]
        have e : cnt r (j + 1) = cnt r j + 1 := by
          show cnt r j + (if r j = 0 then 0 else 1) = _
          rw [if_neg z]
        rw [nI_m16, nI_m16]
        have hg : (¬ nI ((F + cnt r j) * 16) < 0 ∧ ¬ nI (j * 16) < 0 ∧ ¬ (16 : Int32) < 0) ∧ (nI ((F + cnt r j) * 16)).toNatClampNeg + (16 : Int32).toNatClampNeg ≤ 4800 ∧ (nI (j * 16)).toNatClampNeg + (16 : Int32).toNatClampNeg ≤ 512 := by
          refine ⟨⟨nI_pos (by omega), nI_pos (by omega), by decide⟩, ?_, ?_⟩
          · rw [nI_clamp (by omega), show (16 : Int32).toNatClampNeg = 16 from by decide]; omega
          · rw [nI_clamp (by omega), show (16 : Int32).toNatClampNeg = 16 from by decide]; omega
        rw [gd_pos hg, nI_clamp (by omega), nI_clamp (by omega), show (16 : Int32).toNatClampNeg = 16 from by decide, nI_1]
        obtain ⟨h', e1, e2, e3, e4⟩ := ih (j + 1) (va_up h 3 (va_cpy (h 13) (h 3) ((F + cnt r j) * 16) (j * 16) 16)) (by omega) (by omega)
          (fun i hi => by rw [vu_ne _ _ _ hk3]; exact hr i hi)
        rw [e] at e1
        refine ⟨h', e1, fun i a1 => ?_, fun x a1 a2 => ?_, fun x a1 a2 => ?_⟩
        · rw [e2 i a1, vu_ne _ _ _ a1]
        · rw [e3 x a1 (by omega), vu_at, cpy_out (by omega)]
        · rcases Nat.lt_or_ge j (x / 16) with y | y
          · rw [e4 x a1 (by omega), vu_at, vu_ne _ _ _ (by decide), cpy_out (by omega)]
          · have hxj : x / 16 = j := by omega
            rw [e3 x a1 (by omega), vu_at, cpy_in (by omega) (by omega), hxj, if_neg z]
            congr 1; omega
end PU
