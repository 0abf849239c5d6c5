/-! THE PURE SIDE, 1: one instruction. A canonical machine is laid as the reference's rows: 0 4 pc, 0 5 back, 0 6 open, 0 8 sent, 0 10 position, 2 memory, 3 registers, 4 kept, 9 written pages -/
section PU
def mop (x : Int32) : Int32 := (x.toUInt32 >>> ((24 : Int32).toUInt32 &&& Int32.toUInt32 31)).toInt32
def mfa (x : Int32) : Int32 := (x >>> (16 &&& 31)) &&& 7
def mfb (x : Int32) : Int32 := (x >>> (8 &&& 31)) &&& 7
def mfc (x : Int32) : Int32 := x &&& 7
def mtg (c : hp) (x : Int32) : Int32 := (c 3 (mfb x).toNatClampNeg + x.toInt8.toInt32) &&& 511
theorem g7 (y : Int32) : ¬ ((y &&& 7) < 0 ∨ 8 ≤ (y &&& 7).toNatClampNeg) := pk_andIn y (m := 7) 3 (by decide) (by decide)
theorem g511 (y : Int32) : ¬ ((y &&& 511) < 0 ∨ 512 ≤ (y &&& 511).toNatClampNeg) := pk_andIn y (m := 511) 9 (by decide) (by decide)
theorem e511 (y : Int32) : ∃ j, j < 512 ∧ y &&& 511 = nI j := pk_andE y (m := 511) 9 (by decide)
theorem in_of {v : Int32} {n : Nat} (hn : n < 2 ^ 31) (hs : ¬ v < 0) (d : ¬ nI n ≤ v) : ¬ (v < 0 ∨ n ≤ v.toNatClampNeg) := by
  obtain ⟨j, hj, e⟩ := nI_of hs
  subst e
  rcases Nat.lt_or_ge j n with q | q
  · exact nI_in q hn
  · exact absurd (nI_le q hj) d
theorem nI_d16 {j : Nat} (hj : j < 2 ^ 31) : nI j / 16 = nI (j / 16) := pk_div hj (by decide) (by decide)
theorem g32 (y : Int32) : ¬ (((y &&& 511) / 16) < 0 ∨ 32 ≤ ((y &&& 511) / 16).toNatClampNeg) := by
  obtain ⟨j, hj, e⟩ := e511 y
  rw [e, nI_d16 (by omega)]
  exact nI_in (by omega) (by decide)
theorem g511a (y : Int32) : 0 ≤ (y &&& 511) := by
  obtain ⟨j, hj, e⟩ := e511 y
  rw [e]; exact nI_pos' (by omega)
theorem g511b (y : Int32) : (y &&& 511).toNatClampNeg < 512 := by
  obtain ⟨j, hj, e⟩ := e511 y
  rw [e, nI_clamp (by omega)]; exact hj
theorem g32a (y : Int32) : 0 ≤ (y &&& 511) / 16 := by
  obtain ⟨j, hj, e⟩ := e511 y
  rw [e, nI_d16 (by omega)]; exact nI_pos' (by omega)
theorem g32b (y : Int32) : ((y &&& 511) / 16).toNatClampNeg < 32 := by
  obtain ⟨j, hj, e⟩ := e511 y
  rw [e, nI_d16 (by omega), nI_clamp (by omega)]; omega
/-- one instruction on a canonical machine -/
def ins (c : hp) (x inp op : Int32) : hp :=
  if op = 1 then u2 (u2 c 0 4 ((c 0 4 + 1) &&& 511)) 3 (mfa x).toNatClampNeg (c 3 (mfb x).toNatClampNeg + c 3 (mfc x).toNatClampNeg)
  else if op = 2 then u2 (u2 c 0 4 ((c 0 4 + 1) &&& 511)) 3 (mfa x).toNatClampNeg (c 3 (mfb x).toNatClampNeg - c 3 (mfc x).toNatClampNeg)
  else if op = 3 then u2 (u2 c 0 4 ((c 0 4 + 1) &&& 511)) 3 (mfa x).toNatClampNeg (c 3 (mfb x).toNatClampNeg * c 3 (mfc x).toNatClampNeg)
  else if op = 4 then u2 (u2 c 0 4 ((c 0 4 + 1) &&& 511)) 3 (mfa x).toNatClampNeg (c 3 (mfb x).toNatClampNeg &&& c 3 (mfc x).toNatClampNeg)
  else if op = 5 then u2 (u2 c 0 4 ((c 0 4 + 1) &&& 511)) 3 (mfa x).toNatClampNeg (c 3 (mfb x).toNatClampNeg ^^^ c 3 (mfc x).toNatClampNeg)
  else if op = 6 then u2 (u2 c 0 4 ((c 0 4 + 1) &&& 511)) 3 (mfa x).toNatClampNeg x.toInt16.toInt32
  else if op = 7 then u2 (u2 c 0 4 ((c 0 4 + 1) &&& 511)) 3 (mfa x).toNatClampNeg (c 2 (mtg c x).toNatClampNeg)
  else if op = 8 then u2 (u2 (u2 c 0 4 ((c 0 4 + 1) &&& 511)) 2 (mtg c x).toNatClampNeg (c 3 (mfa x).toNatClampNeg)) 9 (mtg c x / 16).toNatClampNeg 1
  else if op = 9 then u2 c 0 4 (x.toInt16.toInt32 &&& 511)
  else if op = 10 then (if c 3 (mfa x).toNatClampNeg = 0 then u2 c 0 4 (x.toInt16.toInt32 &&& 511) else u2 c 0 4 ((c 0 4 + 1) &&& 511))
  else if op = 11 then (if 0 ≤ c 3 (mfa x).toNatClampNeg then u2 c 0 4 ((c 0 4 + 1) &&& 511) else u2 c 0 4 (x.toInt16.toInt32 &&& 511))
  else if op = 12 then u2 (u2 c 0 4 ((c 0 4 + 1) &&& 511)) 3 (mfa x).toNatClampNeg inp
  else if op = 13 then (if 64 ≤ c 0 8 then u2 (u2 c 0 4 ((c 0 4 + 1) &&& 511)) 0 8 (c 0 8 + 1) else u2 (u2 (u2 c 0 4 ((c 0 4 + 1) &&& 511)) 4 (c 0 8).toNatClampNeg (c 3 (mfa x).toNatClampNeg)) 0 8 (c 0 8 + 1))
  else if op = 14 then u2 (u2 c 0 4 ((c 0 4 + 1) &&& 511)) 3 (mfa x).toNatClampNeg (c 0 10)
  else if op = 15 then u2 (u2 c 0 4 (c 0 5)) 0 6 1
  else if op = 16 then u2 (u2 c 0 4 ((c 0 4 + 1) &&& 511)) 0 6 1
  else if op = 17 then u2 (u2 c 0 4 ((c 0 4 + 1) &&& 511)) 0 6 0
  else if op = 18 then u2 c 0 4 (c 3 (mfa x).toNatClampNeg &&& 511)
  else u2 c 0 4 ((c 0 4 + 1) &&& 511)
theorem u2_app (h : hp) (i k : Nat) (v : Int32) (x y : Nat) : u2 h i k v x y = if x = i then (if y = k then v else h x y) else h x y := rfl
theorem u2_uu (h : hp) (i k : Nat) (v w : Int32) : u2 (u2 h i k v) i k w = u2 h i k w := by
  funext x y
  unfold u2
  by_cases hx : x = i <;> by_cases hy : y = k <;> simp [hx, hy]
set_option maxHeartbeats 4000000 in
/-- the reference does it -/
theorem ins_model (g : hp) (x inp : Int32) (hs : ¬ g 0 8 < 0) : f_X6_instruct g x inp = some (ins g x inp (mop x)) := by
  have ha : ¬ (((x >>> (16 &&& 31)) &&& 7) < 0 ∨ 8 ≤ ((x >>> (16 &&& 31)) &&& 7).toNatClampNeg) := g7 _
  have hb : ¬ (((x >>> (8 &&& 31)) &&& 7) < 0 ∨ 8 ≤ ((x >>> (8 &&& 31)) &&& 7).toNatClampNeg) := g7 _
  have hc : ¬ ((x &&& 7) < 0 ∨ 8 ≤ (x &&& 7).toNatClampNeg) := g7 _
  unfold f_X6_instruct f_X6_move f_X6_work f_X6_meant f_X6_write f_X6_send
  simp only [gd_pos ha, gd_pos hb, gd_pos hc, gl, g511, g32, gd_pos, not_false_eq_true]
  unfold ins mtg mfa mfb mfc
  rw [show (x.toUInt32 >>> ((24 : Int32).toUInt32 &&& Int32.toUInt32 31)).toInt32 = mop x from rfl]
  generalize mop x = op
  by_cases c1 : op = 1
  · subst c1; simp [f_X6_move_84, f_X6_move_98, f_X6_move_113, f_X6_move_130, bV, bR, gd, u2_app, u2_uu, hs, g511a, g511b, g32a, g32b]
  by_cases c2 : op = 2
  · subst c2; simp [f_X6_move_84, f_X6_move_98, f_X6_move_113, f_X6_move_130, bV, bR, gd, u2_app, u2_uu, hs, g511a, g511b, g32a, g32b]
  by_cases c3 : op = 3
  · subst c3; simp [f_X6_move_84, f_X6_move_98, f_X6_move_113, f_X6_move_130, bV, bR, gd, u2_app, u2_uu, hs, g511a, g511b, g32a, g32b]
  by_cases c4 : op = 4
  · subst c4; simp [f_X6_move_84, f_X6_move_98, f_X6_move_113, f_X6_move_130, bV, bR, gd, u2_app, u2_uu, hs, g511a, g511b, g32a, g32b]
  by_cases c5 : op = 5
  · subst c5; simp [f_X6_move_84, f_X6_move_98, f_X6_move_113, f_X6_move_130, bV, bR, gd, u2_app, u2_uu, hs, g511a, g511b, g32a, g32b]
  by_cases c6 : op = 6
  · subst c6; simp [f_X6_move_84, f_X6_move_98, f_X6_move_113, f_X6_move_130, bV, bR, gd, u2_app, u2_uu, hs, g511a, g511b, g32a, g32b]
  by_cases c7 : op = 7
  · subst c7; simp [f_X6_move_84, f_X6_move_98, f_X6_move_113, f_X6_move_130, bV, bR, gd, u2_app, u2_uu, hs, g511a, g511b, g32a, g32b]
  by_cases c8 : op = 8
  · subst c8; simp [f_X6_move_84, f_X6_move_98, f_X6_move_113, f_X6_move_130, bV, bR, gd, u2_app, u2_uu, hs, g511a, g511b, g32a, g32b]
  by_cases c9 : op = 9
  · subst c9; simp [f_X6_move_84, f_X6_move_98, f_X6_move_113, f_X6_move_130, bV, bR, gd, u2_app, u2_uu, hs, g511a, g511b, g32a, g32b]
  by_cases c10 : op = 10
  · subst c10
    by_cases d : g 3 ((x >>> (16 &&& 31)) &&& 7).toNatClampNeg = 0 <;> simp [f_X6_move_84, f_X6_move_98, f_X6_move_113, f_X6_move_130, bV, bR, gd, u2_app, u2_uu, hs, g511a, g511b, g32a, g32b, d]
  by_cases c11 : op = 11
  · subst c11
    by_cases d : (0 : Int32) ≤ g 3 ((x >>> (16 &&& 31)) &&& 7).toNatClampNeg <;> simp [f_X6_move_84, f_X6_move_98, f_X6_move_113, f_X6_move_130, bV, bR, gd, u2_app, u2_uu, hs, g511a, g511b, g32a, g32b, d]
  by_cases c12 : op = 12
  · subst c12; simp [f_X6_move_84, f_X6_move_98, f_X6_move_113, f_X6_move_130, bV, bR, gd, u2_app, u2_uu, hs, g511a, g511b, g32a, g32b]
  by_cases c13 : op = 13
  · subst c13
    by_cases d : 64 ≤ g 0 8
    · simp [f_X6_move_84, f_X6_move_98, f_X6_move_113, f_X6_move_130, bV, bR, gd, u2_app, u2_uu, hs, g511a, g511b, g32a, g32b, d]
    · have d2 : ¬ (g 0 8 < 0 ∨ 64 ≤ (g 0 8).toNatClampNeg) := in_of (n := 64) (by decide) hs d
      simp only [not_or] at d2
      simp [f_X6_move_84, f_X6_move_98, f_X6_move_113, f_X6_move_130, bV, bR, gd, u2_app, u2_uu, hs, g511a, g511b, g32a, g32b, d, d2]
  by_cases c14 : op = 14
  · subst c14; simp [f_X6_move_84, f_X6_move_98, f_X6_move_113, f_X6_move_130, bV, bR, gd, u2_app, u2_uu, hs, g511a, g511b, g32a, g32b]
  by_cases c15 : op = 15
  · subst c15; simp [f_X6_move_84, f_X6_move_98, f_X6_move_113, f_X6_move_130, bV, bR, gd, u2_app, u2_uu, hs, g511a, g511b, g32a, g32b]
  by_cases c16 : op = 16
  · subst c16; simp [f_X6_move_84, f_X6_move_98, f_X6_move_113, f_X6_move_130, bV, bR, gd, u2_app, u2_uu, hs, g511a, g511b, g32a, g32b]
  by_cases c17 : op = 17
  · subst c17; simp [f_X6_move_84, f_X6_move_98, f_X6_move_113, f_X6_move_130, bV, bR, gd, u2_app, u2_uu, hs, g511a, g511b, g32a, g32b]
  by_cases c18 : op = 18
  · subst c18; simp [f_X6_move_84, f_X6_move_98, f_X6_move_113, f_X6_move_130, bV, bR, gd, u2_app, u2_uu, hs, g511a, g511b, g32a, g32b]
  simp [f_X6_move_84, f_X6_move_98, f_X6_move_113, f_X6_move_130, bV, bR, gd, u2_app, u2_uu, hs, g511a, g511b, g32a, g32b, c1, c2, c3, c4, c5, c6, c7, c8, c9, c10, c11, c12, c13, c14, c15, c16, c17, c18]
end PU
