/-! THE LAW, 3: its loop, and from its entry -/
section LAW
variable {p : Program} {l : Launch} {e : Env} {s : State} {m : MethodId} {below : List Frame} {meth : Method} {c : Code} {b L : Nat} {xs : Nat → Int32} {dC : Nat → ClassId} {dI : Nat → Nat → Nat} {cI cS cZ : ClassId} {a a2 : Nat → Nat} {h g : hp}
set_option maxHeartbeats 1000000 in
theorem l_loop (C : LC p s m meth c b L xs dC dI cI cS cZ a a2) : ∀ (n j : Nat) (h g : hp), L ≤ j + n → j ≤ 2000 → INV h g → LJ p l e s m below meth c b dC dI cI cS cZ a a2 h g [(3, .int (nI j)), (2, .ref (a2 0)), (1, .ref (a 0)), (0, .ref b)] 28 := by
  obtain ⟨hx, hb, hml, hown, hts, hX, hbl, hK1, hK2, hD1, hD2, hA1, hA2, hdis, hL, hr, hlk⟩ := id C
  intro n
  induction n with
  | zero =>
    intro j h g hn hj0 hV H locs ls hP1 hP2 hS hl
    refine lv_iload_n hx hb dL_law_28 rfl (lv_at hl 0 rfl) ?_
    refine lv_aload_n hx hb dL_law_29 rfl (lv_at hl 3 rfl) ?_
    refine va_slen hx hb hX hbl (A := (fun q : Nat => s.heap.size ≤ q)) (Nat.not_le.mpr hbl) hS dL_law_30 ?_
    refine lv_iconst (v := 3) hx hb dL_law_31 (by decide) ?_
    refine lv_isub hx hb dL_law_32 ?_
    have hsub : (nI L - nI 3).toInt = (L : Int) - (3 : Nat) := pk_sub_toInt (by omega) (by omega)
    refine lv_icmp_gt (tgt := 460) hx hb dL_law_33 (by decide) (fun c1 => ?_) (fun c1 => absurd (Int32.lt_iff_toInt_lt.mpr (show (nI L - nI 3).toInt < (nI j).toInt by rw [hsub, nI_toInt (by omega)]; omega)) c1)
    refine lv_iconst (v := 1) hx hb dL_law_460 (by decide) ?_
    exact va_forget hS.2.2 (lw_ret hx hb hr hlk dL_law_461)
  | succ n ih =>
    intro j h g hn hj0 hV H locs ls hP1 hP2 hS hl
    refine lv_iload_n hx hb dL_law_28 rfl (lv_at hl 0 rfl) ?_
    refine lv_aload_n hx hb dL_law_29 rfl (lv_at hl 3 rfl) ?_
    refine va_slen hx hb hX hbl (A := (fun q : Nat => s.heap.size ≤ q)) (Nat.not_le.mpr hbl) hS dL_law_30 ?_
    refine lv_iconst (v := 3) hx hb dL_law_31 (by decide) ?_
    refine lv_isub hx hb dL_law_32 ?_
    have hsub : (nI L - nI 3).toInt = (L : Int) - (3 : Nat) := pk_sub_toInt (by omega) (by omega)
    refine lv_icmp_gt (tgt := 460) hx hb dL_law_33 (by decide) (fun c1 => ?_) (fun c1 => ?_)
    · refine lv_iconst (v := 1) hx hb dL_law_460 (by decide) ?_
      exact va_forget hS.2.2 (lw_ret hx hb hr hlk dL_law_461)
    · have hj : j + 2 < L := by
        have : ¬ ((nI L - nI 3).toInt < (nI j).toInt) := fun z => c1 (Int32.lt_iff_toInt_lt.mpr z)
        rw [hsub, nI_toInt (by omega)] at this
        omega
      have kk : ∀ h' g', INV h' g' → LJ p l e s m below meth c b dC dI cI cS cZ a a2 h' g' [(3, .int (nI j)), (2, .ref (a2 0)), (1, .ref (a 0)), (0, .ref b)] 454 := by
        intro h' g' hV' H locs ls hP1 hP2 hS hl
        refine lv_iinc (v := nI (j + 3)) (lv' := [(3, .int (nI (j + 3))), (2, .ref (a2 0)), (1, .ref (a 0)), (0, .ref b)]) hx hb dL_law_454 hl (k := 0) rfl (nI_add j 3) (by decide) rfl (fun ls hl => ?_)
        refine lv_goto (tgt := 28) hx hb dL_law_457 (by decide) ?_
        exact ih (j + 3) h' g' (by omega) (by omega) hV' H locs ls hP1 hP2 hS hl
      refine lv_aload_n hx hb dL_law_36 rfl (lv_at hl 3 rfl) ?_
      refine lv_iload_n hx hb dL_law_37 rfl (lv_at hl 0 rfl) ?_
      refine ls_ld C hS (n := j) rfl (by omega) dL_law_38 ?_
      refine lv_bipush (v := 15) hx hb dL_law_39 (by decide) ?_
      refine lv_iand hx hb dL_law_41 ?_
      obtain ⟨z, hz, ez⟩ := and15 (xs j)
      rcases (show z = 0 ∨ z = 1 ∨ z = 2 ∨ z = 3 ∨ z = 4 ∨ z = 5 ∨ z = 6 ∨ z = 7 ∨ z = 8 ∨ z = 9 ∨ z = 10 ∨ z = 11 ∨ z = 12 ∨ z = 13 ∨ z = 14 ∨ z = 15 by omega) with rfl | rfl | rfl | rfl | rfl | rfl | rfl | rfl | rfl | rfl | rfl | rfl | rfl | rfl | rfl | rfl
      · exact lv_tableIn (off := 78) (tgt := 120) hx hb dL_law_42 (by rw [ez]; decide) (by rw [ez]; decide) (by rw [ez]; rfl) (by decide) (lc_0 C hj hV kk H locs ls hP1 hP2 hS hl)
      · exact lv_tableIn (off := 111) (tgt := 153) hx hb dL_law_42 (by rw [ez]; decide) (by rw [ez]; decide) (by rw [ez]; rfl) (by decide) (lc_1 C hj hV kk H locs ls hP1 hP2 hS hl)
      · exact lv_tableIn (off := 122) (tgt := 164) hx hb dL_law_42 (by rw [ez]; decide) (by rw [ez]; decide) (by rw [ez]; rfl) (by decide) (lc_2 C hj hV kk H locs ls hP1 hP2 hS hl)
      · exact lv_tableIn (off := 133) (tgt := 175) hx hb dL_law_42 (by rw [ez]; decide) (by rw [ez]; decide) (by rw [ez]; rfl) (by decide) (lc_3 C hj hV kk H locs ls hP1 hP2 hS hl)
      · exact lv_tableIn (off := 156) (tgt := 198) hx hb dL_law_42 (by rw [ez]; decide) (by rw [ez]; decide) (by rw [ez]; rfl) (by decide) (lc_4 C hj hV kk H locs ls hP1 hP2 hS hl)
      · exact lv_tableIn (off := 169) (tgt := 211) hx hb dL_law_42 (by rw [ez]; decide) (by rw [ez]; decide) (by rw [ez]; rfl) (by decide) (lc_5 C hj hV kk H locs ls hP1 hP2 hS hl)
      · exact lv_tableIn (off := 192) (tgt := 234) hx hb dL_law_42 (by rw [ez]; decide) (by rw [ez]; decide) (by rw [ez]; rfl) (by decide) (lc_6 C hj hV kk H locs ls hP1 hP2 hS hl)
      · exact lv_tableIn (off := 215) (tgt := 257) hx hb dL_law_42 (by rw [ez]; decide) (by rw [ez]; decide) (by rw [ez]; rfl) (by decide) (lc_7 C hj hV kk H locs ls hP1 hP2 hS hl)
      · exact lv_tableIn (off := 238) (tgt := 280) hx hb dL_law_42 (by rw [ez]; decide) (by rw [ez]; decide) (by rw [ez]; rfl) (by decide) (lc_8 C hj hV kk H locs ls hP1 hP2 hS hl)
      · exact lv_tableIn (off := 251) (tgt := 293) hx hb dL_law_42 (by rw [ez]; decide) (by rw [ez]; decide) (by rw [ez]; rfl) (by decide) (lc_9 C hj hV kk H locs ls hP1 hP2 hS hl)
      · exact lv_tableIn (off := 274) (tgt := 316) hx hb dL_law_42 (by rw [ez]; decide) (by rw [ez]; decide) (by rw [ez]; rfl) (by decide) (lc_10 C hj hV kk H locs ls hP1 hP2 hS hl)
      · exact lv_tableIn (off := 297) (tgt := 339) hx hb dL_law_42 (by rw [ez]; decide) (by rw [ez]; decide) (by rw [ez]; rfl) (by decide) (lc_11 C hj hV kk H locs ls hP1 hP2 hS hl)
      · exact lv_tableIn (off := 330) (tgt := 372) hx hb dL_law_42 (by rw [ez]; decide) (by rw [ez]; decide) (by rw [ez]; rfl) (by decide) (lc_12 C hj hV kk H locs ls hP1 hP2 hS hl)
      · exact lv_tableIn (off := 353) (tgt := 395) hx hb dL_law_42 (by rw [ez]; decide) (by rw [ez]; decide) (by rw [ez]; rfl) (by decide) (lc_13 C hj hV kk H locs ls hP1 hP2 hS hl)
      · exact lv_tableIn (off := 376) (tgt := 418) hx hb dL_law_42 (by rw [ez]; decide) (by rw [ez]; decide) (by rw [ez]; rfl) (by decide) (lc_14 C hj hV kk H locs ls hP1 hP2 hS hl)
      · exact lv_tableIn (off := 389) (tgt := 431) hx hb dL_law_42 (by rw [ez]; decide) (by rw [ez]; decide) (by rw [ez]; rfl) (by decide) (lc_15 C hj hV kk H locs ls hP1 hP2 hS hl)
end LAW
