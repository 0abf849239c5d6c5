/-! THE PURE SIDE, 2: the class's machine as a canonical one -/
section PU
theorem e7 (y : Int32) : ∃ j, j < 8 ∧ y &&& 7 = nI j := pk_andE y (m := 7) 3 (by decide)
theorem g7a (y : Int32) : 0 ≤ (y &&& 7) := by
  obtain ⟨j, hj, e⟩ := e7 y
  rw [e]; exact nI_pos' (by omega)
theorem g7b (y : Int32) : (y &&& 7).toNatClampNeg < 8 := by
  obtain ⟨j, hj, e⟩ := e7 y
  rw [e, nI_clamp (by omega)]; exact hj
def bitv (w : Int32) (k : Nat) : Int32 := if k < 32 ∧ w.toBitVec.getLsbD k = true then 1 else 0
def kv (h : hp) : hp := fun r k =>
  if r = 0 then (if k = 4 then h 1 3 else if k = 5 then h 1 4 else if k = 6 then h 1 5 else if k = 8 then h 1 6 else if k = 10 then h 0 7 else 0)
  else if r = 2 then h 3 k else if r = 3 then h 2 k else if r = 4 then h 4 k else if r = 9 then bitv (h 1 7) k else 0
theorem u2_ne (h : hp) (i k : Nat) (v : Int32) (x : Nat) (hx : x ≠ i) : u2 h i k v x = h x := by
  funext y
  simp [u2, hx]
theorem kv_pc (h : hp) (v : Int32) : kv (u2 h 1 3 v) = u2 (kv h) 0 4 v := by
  funext r k
  simp only [kv, u2_app]
  by_cases h0 : r = 0 <;> by_cases h1 : k = 4 <;> simp [h0, h1]
theorem kv_back (h : hp) (v : Int32) : kv (u2 h 1 4 v) = u2 (kv h) 0 5 v := by
  funext r k
  simp only [kv, u2_app]
  by_cases h0 : r = 0 <;> by_cases h1 : k = 5 <;> simp [h0, h1]
theorem kv_open (h : hp) (v : Int32) : kv (u2 h 1 5 v) = u2 (kv h) 0 6 v := by
  funext r k
  simp only [kv, u2_app]
  by_cases h0 : r = 0 <;> by_cases h1 : k = 6 <;> simp [h0, h1]
theorem kv_sent (h : hp) (v : Int32) : kv (u2 h 1 6 v) = u2 (kv h) 0 8 v := by
  funext r k
  simp only [kv, u2_app]
  by_cases h0 : r = 0 <;> by_cases h1 : k = 8 <;> simp [h0, h1]
theorem kv_now (h : hp) (v : Int32) : kv (u2 h 0 7 v) = u2 (kv h) 0 10 v := by
  funext r k
  simp only [kv, u2_app]
  by_cases h0 : r = 0 <;> by_cases h1 : k = 10 <;> simp [h0, h1]
theorem kv_reg (h : hp) (j : Nat) (v : Int32) : kv (u2 h 2 j v) = u2 (kv h) 3 j v := by
  funext r k
  simp only [kv, u2_app]
  by_cases h0 : r = 3 <;> simp [h0]
theorem kv_mem (h : hp) (j : Nat) (v : Int32) : kv (u2 h 3 j v) = u2 (kv h) 2 j v := by
  funext r k
  simp only [kv, u2_app]
  by_cases h0 : r = 2 <;> simp [h0]
theorem kv_kept (h : hp) (j : Nat) (v : Int32) : kv (u2 h 4 j v) = u2 (kv h) 4 j v := by
  funext r k
  simp only [kv, u2_app]
  by_cases h0 : r = 4 <;> simp [h0]
theorem pb_tp : ∀ l, l < 32 → ((1 : Int32) <<< (nI l &&& 31)).toBitVec = BitVec.twoPow 32 l := by decide
theorem bitv_or (w : Int32) (l : Nat) (hl : l < 32) (k : Nat) : bitv (w ||| ((1 : Int32) <<< (nI l &&& 31))) k = if k = l then 1 else bitv w k := by
  unfold bitv
  rw [show (w ||| ((1 : Int32) <<< (nI l &&& 31))).toBitVec = w.toBitVec ||| ((1 : Int32) <<< (nI l &&& 31)).toBitVec from rfl, pb_tp l hl, BitVec.getLsbD_or, BitVec.getLsbD_twoPow]
  by_cases hk : k = l
  · subst hk
    simp [hl]
  · have : ¬ l = k := fun q => hk q.symm
    simp [hk, this]
theorem kv_wr (h : hp) (y : Int32) : kv (u2 h 1 7 (h 1 7 ||| ((1 : Int32) <<< (((y &&& 511) / 16) &&& 31)))) = u2 (kv h) 9 ((y &&& 511) / 16).toNatClampNeg 1 := by
  obtain ⟨j, hj, e⟩ := e511 y
  rw [e, nI_d16 (by omega), nI_clamp (by omega)]
  funext r k
  simp only [kv, u2_app]
  by_cases h0 : r = 9
  · simp [h0, bitv_or _ _ (show j / 16 < 32 by omega)]
  · simp [h0]
theorem kv_wr2 {h : hp} {w : Int32} (hw : h 1 7 = w) (y : Int32) : kv (u2 h 1 7 (w ||| ((1 : Int32) <<< (((y &&& 511) / 16) &&& 31)))) = u2 (kv h) 9 ((y &&& 511) / 16).toNatClampNeg 1 := by
  subst hw
  exact kv_wr h y
theorem kv_r0 (h : hp) : kv h 0 4 = h 1 3 ∧ kv h 0 5 = h 1 4 ∧ kv h 0 6 = h 1 5 ∧ kv h 0 8 = h 1 6 ∧ kv h 0 10 = h 0 7 := ⟨rfl, rfl, rfl, rfl, rfl⟩
theorem kv_4 (h : hp) : kv h 0 4 = h 1 3 := rfl
theorem kv_5 (h : hp) : kv h 0 5 = h 1 4 := rfl
theorem kv_8 (h : hp) : kv h 0 8 = h 1 6 := rfl
theorem kv_10 (h : hp) : kv h 0 10 = h 0 7 := rfl
theorem kv_2 (h : hp) (k : Nat) : kv h 2 k = h 3 k := rfl
theorem kv_3 (h : hp) (k : Nat) : kv h 3 k = h 2 k := rfl
set_option maxHeartbeats 4000000 in
/-- the class does one instruction as the canonical machine does -/
theorem ins_class (h : hp) (inp : Int32) (hpc : ¬ (h 1 3 < 0 ∨ 512 ≤ (h 1 3).toNatClampNeg)) (hs : ¬ h 1 6 < 0) :
    ∃ h', f_X2_perform h (h 0 7) inp = some h' ∧ kv h' = ins (kv h) (h 3 (h 1 3).toNatClampNeg) inp (mop (h 3 (h 1 3).toNatClampNeg)) ∧ ∀ i, i ≠ 1 → i ≠ 2 → i ≠ 3 → i ≠ 4 → h' i = h i := by
  unfold f_X2_perform
  rw [gd_pos hpc]
  simp only [gl]
  generalize h 3 (h 1 3).toNatClampNeg = x
  rw [show (x.toUInt32 >>> ((24 : Int32).toUInt32 &&& Int32.toUInt32 31)).toInt32 = mop x from rfl]
  generalize mop x = op
  have ha : ¬ (((x >>> (16 &&& 31)) &&& 7) < 0 ∨ 8 ≤ ((x >>> (16 &&& 31)) &&& 7).toNatClampNeg) := g7 _
  have hb : ¬ (((x >>> (8 &&& 31)) &&& 7) < 0 ∨ 8 ≤ ((x >>> (8 &&& 31)) &&& 7).toNatClampNeg) := g7 _
  have hc : ¬ ((x &&& 7) < 0 ∨ 8 ≤ (x &&& 7).toNatClampNeg) := g7 _
  simp only [f_X2_perform_120, f_X2_perform_258, f_X2_fieldA, f_X2_fieldB, f_X2_fieldC, f_X2_signedHalf, f_X2_signedByte, f_X5_placeOf, f_X2_target, f_X2_store, f_X2_putOut, f_X2_pageBit, gd_pos ha, gd_pos hb, gd_pos hc]
  by_cases c1 : op = 1
  · subst c1
    simp [ins, mtg, mfa, mfb, mfc, f_X2_jump, f_X2_compute, f_X5_placeOf, bV, bR, gd, u2_app, u2_uu, hs, g7a, g7b, g511a, g511b, g32a, g32b, kv_pc, kv_back, kv_open, kv_sent, kv_reg, kv_mem, kv_kept, kv_wr, kv_4, kv_5, kv_8, kv_10, kv_2, kv_3]
    intro i a1 a2 a3 a4; simp [u2_ne, a1, a2, a3, a4]
  by_cases c2 : op = 2
  · subst c2
    simp [ins, mtg, mfa, mfb, mfc, f_X2_jump, f_X2_compute, f_X5_placeOf, bV, bR, gd, u2_app, u2_uu, hs, g7a, g7b, g511a, g511b, g32a, g32b, kv_pc, kv_back, kv_open, kv_sent, kv_reg, kv_mem, kv_kept, kv_wr, kv_4, kv_5, kv_8, kv_10, kv_2, kv_3]
    intro i a1 a2 a3 a4; simp [u2_ne, a1, a2, a3, a4]
  by_cases c3 : op = 3
  · subst c3
    simp [ins, mtg, mfa, mfb, mfc, f_X2_jump, f_X2_compute, f_X5_placeOf, bV, bR, gd, u2_app, u2_uu, hs, g7a, g7b, g511a, g511b, g32a, g32b, kv_pc, kv_back, kv_open, kv_sent, kv_reg, kv_mem, kv_kept, kv_wr, kv_4, kv_5, kv_8, kv_10, kv_2, kv_3]
    intro i a1 a2 a3 a4; simp [u2_ne, a1, a2, a3, a4]
  by_cases c4 : op = 4
  · subst c4
    simp [ins, mtg, mfa, mfb, mfc, f_X2_jump, f_X2_compute, f_X5_placeOf, bV, bR, gd, u2_app, u2_uu, hs, g7a, g7b, g511a, g511b, g32a, g32b, kv_pc, kv_back, kv_open, kv_sent, kv_reg, kv_mem, kv_kept, kv_wr, kv_4, kv_5, kv_8, kv_10, kv_2, kv_3]
    intro i a1 a2 a3 a4; simp [u2_ne, a1, a2, a3, a4]
  by_cases c5 : op = 5
  · subst c5
    simp [ins, mtg, mfa, mfb, mfc, f_X2_jump, f_X2_compute, f_X5_placeOf, bV, bR, gd, u2_app, u2_uu, hs, g7a, g7b, g511a, g511b, g32a, g32b, kv_pc, kv_back, kv_open, kv_sent, kv_reg, kv_mem, kv_kept, kv_wr, kv_4, kv_5, kv_8, kv_10, kv_2, kv_3]
    intro i a1 a2 a3 a4; simp [u2_ne, a1, a2, a3, a4]
  by_cases c6 : op = 6
  · subst c6
    simp [ins, mtg, mfa, mfb, mfc, f_X2_jump, f_X2_compute, f_X5_placeOf, bV, bR, gd, u2_app, u2_uu, hs, g7a, g7b, g511a, g511b, g32a, g32b, kv_pc, kv_back, kv_open, kv_sent, kv_reg, kv_mem, kv_kept, kv_wr, kv_4, kv_5, kv_8, kv_10, kv_2, kv_3]
    intro i a1 a2 a3 a4; simp [u2_ne, a1, a2, a3, a4]
  by_cases c7 : op = 7
  · subst c7
    simp [ins, mtg, mfa, mfb, mfc, f_X2_jump, f_X2_compute, f_X5_placeOf, bV, bR, gd, u2_app, u2_uu, hs, g7a, g7b, g511a, g511b, g32a, g32b, kv_pc, kv_back, kv_open, kv_sent, kv_reg, kv_mem, kv_kept, kv_wr, kv_4, kv_5, kv_8, kv_10, kv_2, kv_3]
    intro i a1 a2 a3 a4; simp [u2_ne, a1, a2, a3, a4]
  by_cases c8 : op = 8
  · subst c8
    simp [ins, mtg, mfa, mfb, mfc, f_X2_jump, f_X2_compute, f_X5_placeOf, bV, bR, gd, u2_app, u2_uu, hs, g7a, g7b, g511a, g511b, g32a, g32b, kv_pc, kv_back, kv_open, kv_sent, kv_reg, kv_mem, kv_kept, kv_wr, kv_4, kv_5, kv_8, kv_10, kv_2, kv_3]
    refine ⟨?_, fun i a1 a2 a3 a4 => by simp [u2_ne, a1, a2, a3, a4]⟩
    rw [kv_wr2 (by simp [u2_app]), kv_mem, kv_pc]
  by_cases c9 : op = 9
  · subst c9
    simp [ins, mtg, mfa, mfb, mfc, f_X2_jump, f_X2_compute, f_X5_placeOf, bV, bR, gd, u2_app, u2_uu, hs, g7a, g7b, g511a, g511b, g32a, g32b, kv_pc, kv_back, kv_open, kv_sent, kv_reg, kv_mem, kv_kept, kv_wr, kv_4, kv_5, kv_8, kv_10, kv_2, kv_3]
    intro i a1 a2 a3 a4; simp [u2_ne, a1, a2, a3, a4]
  by_cases c10 : op = 10
  · subst c10
    by_cases d : h 2 ((x >>> (16 &&& 31)) &&& 7).toNatClampNeg = 0
    · simp [ins, mtg, mfa, mfb, mfc, f_X2_jump, f_X2_compute, f_X5_placeOf, bV, bR, gd, u2_app, u2_uu, hs, g7a, g7b, g511a, g511b, g32a, g32b, kv_pc, kv_back, kv_open, kv_sent, kv_reg, kv_mem, kv_kept, kv_wr, kv_4, kv_5, kv_8, kv_10, kv_2, kv_3, d]
      intro i a1 a2 a3 a4; simp [u2_ne, a1, a2, a3, a4]
    · simp [ins, mtg, mfa, mfb, mfc, f_X2_jump, f_X2_compute, f_X5_placeOf, bV, bR, gd, u2_app, u2_uu, hs, g7a, g7b, g511a, g511b, g32a, g32b, kv_pc, kv_back, kv_open, kv_sent, kv_reg, kv_mem, kv_kept, kv_wr, kv_4, kv_5, kv_8, kv_10, kv_2, kv_3, d]
      intro i a1 a2 a3 a4; simp [u2_ne, a1, a2, a3, a4]
  by_cases c11 : op = 11
  · subst c11
    by_cases d : (0 : Int32) ≤ h 2 ((x >>> (16 &&& 31)) &&& 7).toNatClampNeg
    · simp [ins, mtg, mfa, mfb, mfc, f_X2_jump, f_X2_compute, f_X5_placeOf, bV, bR, gd, u2_app, u2_uu, hs, g7a, g7b, g511a, g511b, g32a, g32b, kv_pc, kv_back, kv_open, kv_sent, kv_reg, kv_mem, kv_kept, kv_wr, kv_4, kv_5, kv_8, kv_10, kv_2, kv_3, d]
      intro i a1 a2 a3 a4; simp [u2_ne, a1, a2, a3, a4]
    · simp [ins, mtg, mfa, mfb, mfc, f_X2_jump, f_X2_compute, f_X5_placeOf, bV, bR, gd, u2_app, u2_uu, hs, g7a, g7b, g511a, g511b, g32a, g32b, kv_pc, kv_back, kv_open, kv_sent, kv_reg, kv_mem, kv_kept, kv_wr, kv_4, kv_5, kv_8, kv_10, kv_2, kv_3, d]
      intro i a1 a2 a3 a4; simp [u2_ne, a1, a2, a3, a4]
  by_cases c12 : op = 12
  · subst c12
    simp [ins, mtg, mfa, mfb, mfc, f_X2_jump, f_X2_compute, f_X5_placeOf, bV, bR, gd, u2_app, u2_uu, hs, g7a, g7b, g511a, g511b, g32a, g32b, kv_pc, kv_back, kv_open, kv_sent, kv_reg, kv_mem, kv_kept, kv_wr, kv_4, kv_5, kv_8, kv_10, kv_2, kv_3]
    intro i a1 a2 a3 a4; simp [u2_ne, a1, a2, a3, a4]
  by_cases c13 : op = 13
  · subst c13
    by_cases d : 64 ≤ h 1 6
    · simp [ins, mtg, mfa, mfb, mfc, f_X2_jump, f_X2_compute, f_X5_placeOf, bV, bR, gd, u2_app, u2_uu, hs, g7a, g7b, g511a, g511b, g32a, g32b, kv_pc, kv_back, kv_open, kv_sent, kv_reg, kv_mem, kv_kept, kv_wr, kv_4, kv_5, kv_8, kv_10, kv_2, kv_3, d]
      intro i a1 a2 a3 a4; simp [u2_ne, a1, a2, a3, a4]
    · have d2 : ¬ (h 1 6 < 0 ∨ 64 ≤ (h 1 6).toNatClampNeg) := in_of (n := 64) (by decide) hs d
      simp only [not_or] at d2
      simp [ins, mtg, mfa, mfb, mfc, f_X2_jump, f_X2_compute, f_X5_placeOf, bV, bR, gd, u2_app, u2_uu, hs, g7a, g7b, g511a, g511b, g32a, g32b, kv_pc, kv_back, kv_open, kv_sent, kv_reg, kv_mem, kv_kept, kv_wr, kv_4, kv_5, kv_8, kv_10, kv_2, kv_3, d, d2]
      intro i a1 a2 a3 a4; simp [u2_ne, a1, a2, a3, a4]
  by_cases c14 : op = 14
  · subst c14
    simp [ins, mtg, mfa, mfb, mfc, f_X2_jump, f_X2_compute, f_X5_placeOf, bV, bR, gd, u2_app, u2_uu, hs, g7a, g7b, g511a, g511b, g32a, g32b, kv_pc, kv_back, kv_open, kv_sent, kv_reg, kv_mem, kv_kept, kv_wr, kv_4, kv_5, kv_8, kv_10, kv_2, kv_3]
    intro i a1 a2 a3 a4; simp [u2_ne, a1, a2, a3, a4]
  by_cases c15 : op = 15
  · subst c15
    simp [ins, mtg, mfa, mfb, mfc, f_X2_jump, f_X2_compute, f_X5_placeOf, bV, bR, gd, u2_app, u2_uu, hs, g7a, g7b, g511a, g511b, g32a, g32b, kv_pc, kv_back, kv_open, kv_sent, kv_reg, kv_mem, kv_kept, kv_wr, kv_4, kv_5, kv_8, kv_10, kv_2, kv_3]
    intro i a1 a2 a3 a4; simp [u2_ne, a1, a2, a3, a4]
  by_cases c16 : op = 16
  · subst c16
    simp [ins, mtg, mfa, mfb, mfc, f_X2_jump, f_X2_compute, f_X5_placeOf, bV, bR, gd, u2_app, u2_uu, hs, g7a, g7b, g511a, g511b, g32a, g32b, kv_pc, kv_back, kv_open, kv_sent, kv_reg, kv_mem, kv_kept, kv_wr, kv_4, kv_5, kv_8, kv_10, kv_2, kv_3]
    intro i a1 a2 a3 a4; simp [u2_ne, a1, a2, a3, a4]
  by_cases c17 : op = 17
  · subst c17
    simp [ins, mtg, mfa, mfb, mfc, f_X2_jump, f_X2_compute, f_X5_placeOf, bV, bR, gd, u2_app, u2_uu, hs, g7a, g7b, g511a, g511b, g32a, g32b, kv_pc, kv_back, kv_open, kv_sent, kv_reg, kv_mem, kv_kept, kv_wr, kv_4, kv_5, kv_8, kv_10, kv_2, kv_3]
    intro i a1 a2 a3 a4; simp [u2_ne, a1, a2, a3, a4]
  by_cases c18 : op = 18
  · subst c18
    simp [ins, mtg, mfa, mfb, mfc, f_X2_jump, f_X2_compute, f_X5_placeOf, bV, bR, gd, u2_app, u2_uu, hs, g7a, g7b, g511a, g511b, g32a, g32b, kv_pc, kv_back, kv_open, kv_sent, kv_reg, kv_mem, kv_kept, kv_wr, kv_4, kv_5, kv_8, kv_10, kv_2, kv_3]
    intro i a1 a2 a3 a4; simp [u2_ne, a1, a2, a3, a4]
  simp [ins, mtg, mfa, mfb, mfc, f_X2_jump, f_X2_compute, f_X5_placeOf, bV, bR, gd, u2_app, u2_uu, hs, g7a, g7b, g511a, g511b, g32a, g32b, kv_pc, kv_back, kv_open, kv_sent, kv_reg, kv_mem, kv_kept, kv_wr, kv_4, kv_5, kv_8, kv_10, kv_2, kv_3, c1, c2, c3, c4, c5, c6, c7, c8, c9, c10, c11, c12, c13, c14, c15, c16, c17, c18]
  intro i a1 a2 a3 a4; simp [u2_ne, a1, a2, a3, a4]
end PU
