/-! THE PURE SIDE, 20: cut, start, stop, poke, give, ring, and what is read -/
section PU
/-- the machines of both heaps agree -/
theorem mview {h g : hp} (hV : INV h g) : ME (kv h) g ∧ (∀ k, k < 64 → nI k < g 0 8 → h 4 k = g 4 k) ∧ vld g ∧ ∃ m, m < 2 ^ 30 ∧ g 0 8 = nI m := by
  rcases hV with hR | hN
  · obtain ⟨I, p, e, n, q, kd, vl, f, w, ip, rg, hG, hw, hrg, hK, hM⟩ := hR
    have heb := hG.eb
    have hpe : p ≤ e := hG.2.1
    obtain ⟨-, -, -, hME, hKE, -⟩ := hK
    obtain ⟨-, -, -, hMEm, hKEm⟩ := hM
    obtain ⟨hv, h10, m, hm, h8⟩ := SS_ok I (LG q kd vl n) f p
    obtain ⟨kp1, kp2⟩ := Sq_kept (I := I) (L := LG q kd vl n) (ini_vld f) rfl rfl hpe (show e < 2 ^ 30 by omega)
    refine ⟨ME_tr hME (ME_sy hMEm), fun k hk hlt => ?_, ME_vld (ME_sy hMEm) hv, m, by omega, by rw [hMEm.r8]; exact h8⟩
    rw [hMEm.r8] at hlt
    have t1 := hKEm k hk hlt
    have t2 := kp1 k hk hlt
    have t3 := hKE k hk (kp2 k hk hlt)
    exact (t3.symm.trans t2.symm).trans t1
  · exact ⟨hN.2.2.2.1, fun k hk hlt => (hN.2.2.2.2.1 k hk hlt).symm, hN.2.2.2.2.2.1, hN.2.2.2.2.2.2⟩
theorem same_some {x : Option Int32} (h : x.isSome = true) : ∃ r, x = some r ∧ x = some r := by
  cases x with
  | none => cases h
  | some r => exact ⟨r, rfl, rfl⟩
theorem in_lt {x : Int32} {N : Nat} (hN : N < 2 ^ 31) (h0 : ¬ x < 0) (h1 : ¬ nI N ≤ x) : ∃ k, k < N ∧ x = nI k := by
  obtain ⟨k, hk, rfl⟩ := nI_of h0
  refine ⟨k, ?_, rfl⟩
  rcases Nat.lt_or_ge k N with z | z
  · exact z
  · exact absurd (nI_le z hk) h1
theorem isPlace_ok (x : Int32) : (f_X5_isPlace x = 0 ∧ f_X6_isPlace x = 0) ∨ (∃ k, k < 512 ∧ x = nI k ∧ ¬ f_X5_isPlace x = 0 ∧ ¬ f_X6_isPlace x = 0) := by
  unfold f_X5_isPlace f_X6_isPlace
  by_cases c1 : x < 0
  · rw [if_pos c1]; exact Or.inl ⟨rfl, rfl⟩
  · rw [if_neg c1]
    by_cases c2 : 512 ≤ x
    · rw [if_pos c2]; exact Or.inl ⟨rfl, rfl⟩
    · rw [if_neg c2]
      obtain ⟨k, hk, e⟩ := in_lt (N := 512) (by decide) c1 c2
      exact Or.inr ⟨k, hk, e, by decide, by decide⟩
theorem eq_register {h g : hp} (hV : INV h g) (x : Int32) : ∃ r, f_X5_register h x = some r ∧ f_X6_register g x = some r := by
  obtain ⟨hM, -⟩ := mview hV
  have e3 : h 1 3 = g 0 4 := hM.r4
  have e4 : h 1 4 = g 0 5 := hM.r5
  have e5 : h 1 5 = g 0 6 := hM.r6
  unfold f_X5_register f_X6_register
  rw [e3, e4, e5]
  have key : ∃ r, (if x = 8 then (some (g 0 4)) else (if x = 9 then (some (g 0 5)) else (if x = 10 then (if g 0 6 = 0 then (some 0) else (some 1)) else (some 0)))) = some r := by
    by_cases c1 : x = 8
    · exact ⟨_, if_pos c1⟩
    · rw [if_neg c1]
      by_cases c2 : x = 9
      · exact ⟨_, if_pos c2⟩
      · rw [if_neg c2]
        by_cases c3 : x = 10
        · rw [if_pos c3]
          by_cases c4 : g 0 6 = 0
          · exact ⟨_, if_pos c4⟩
          · exact ⟨_, if_neg c4⟩
        · exact ⟨_, if_neg c3⟩
  by_cases c1 : x < 0
  · rw [if_pos c1, if_pos c1]
    obtain ⟨r, hr⟩ := key
    exact ⟨r, hr, hr⟩
  · rw [if_neg c1, if_neg c1]
    by_cases c2 : 8 ≤ x
    · rw [if_pos c2, if_pos c2]
      obtain ⟨r, hr⟩ := key
      exact ⟨r, hr, hr⟩
    · rw [if_neg c2, if_neg c2]
      obtain ⟨k, hk, rfl⟩ := in_lt (N := 8) (by decide) c1 c2
      rw [gd_pos (nI_in hk (by decide)), gd_pos (nI_in hk (by decide)), nI_clamp (by omega)]
      exact ⟨_, rfl, by rw [show h 2 k = g 3 k from hM.reg hk]⟩
theorem eq_word {h g : hp} (hV : INV h g) (x : Int32) : ∃ r, f_X5_word h x = some r ∧ f_X6_word g x = some r := by
  obtain ⟨hM, -⟩ := mview hV
  unfold f_X5_word f_X6_word
  rcases isPlace_ok x with ⟨e1, e2⟩ | ⟨k, hk, rfl, e1, e2⟩
  · rw [if_pos e1, if_pos e2]; exact ⟨_, rfl, rfl⟩
  · rw [if_neg e1, if_neg e2, gd_pos (nI_in hk (by decide)), gd_pos (nI_in hk (by decide)), nI_clamp (by omega)]
    exact ⟨_, rfl, by rw [show h 3 k = g 2 k from hM.mem hk]⟩
theorem eq_outs {h g : hp} (hV : INV h g) : ∃ r, f_X5_outs h = some r ∧ f_X6_outs g = some r := by
  obtain ⟨hM, -⟩ := mview hV
  exact ⟨_, rfl, by unfold f_X6_outs; rw [show h 1 6 = g 0 8 from hM.r8]⟩
theorem eq_out {h g : hp} (hV : INV h g) (x : Int32) : ∃ r, f_X5_out h x = some r ∧ f_X6_out g x = some r := by
  obtain ⟨hM, hk, -⟩ := mview hV
  unfold f_X5_out f_X6_out
  rw [show h 1 6 = g 0 8 from hM.r8]
  by_cases c1 : x < 0
  · rw [if_pos c1, if_pos c1]; exact ⟨_, rfl, rfl⟩
  · rw [if_neg c1, if_neg c1]
    by_cases c2 : g 0 8 ≤ x
    · rw [if_pos c2, if_pos c2]; exact ⟨_, rfl, rfl⟩
    · rw [if_neg c2, if_neg c2]
      by_cases c3 : 64 ≤ x
      · rw [if_neg (Int32.not_lt.mpr c3), if_pos c3]; exact ⟨_, rfl, rfl⟩
      · rw [if_pos (Int32.not_le.mp c3), if_neg c3]
        obtain ⟨k, hk64, rfl⟩ := in_lt (N := 64) (by decide) c1 c3
        rw [gd_pos (nI_in hk64 (by decide)), gd_pos (nI_in hk64 (by decide)), nI_clamp (by omega)]
        exact ⟨_, rfl, by rw [hk k hk64 (Int32.not_le.mp c2)]⟩
theorem eq_record {h g : hp} (hV : INV h g) (x : Int32) : ∃ r, f_X5_record h x = some r ∧ f_X6_record g x = some r := by
  unfold f_X5_record f_X6_record
  rcases hV with hR | hN
  · obtain ⟨I, p, e, n, q, kd, vl, f, w, ip, rg, hG, hw, hrg, hK, hM⟩ := hR
    obtain ⟨⟨k0, k5, k6, k7, k8⟩, ⟨fs, hfs, kf1, kf2, kf3⟩, ⟨k73, kl⟩, hME, hKE, hSN⟩ := hK
    obtain ⟨⟨m0, m9, m11, m15, m17, m21, m22⟩, m16, ⟨m1, m5, m8, m10⟩, hMEm, hKEm⟩ := hM
    have g10 : g 0 10 = nI p := by rw [hMEm.r10]; exact (SS_ok I (LG q kd vl n) f p).2.1
    have hap : f_X6_allPages g = some (nI (FPs I (LG q kd vl n) f (e / I + 1))) := ap_model hG.2.2.1 m17 m8
    rw [k5, m9, if_neg (show ¬ (1 : Int32) = 0 by decide), if_neg (show ¬ (1 : Int32) = 0 by decide), k7, g10, k8, m11, k73, m15, hSN.1.1, m17, hSN.1.2.1, hap, bR_pos rfl, kf2, m21, k6, m22]
    refine same_some ?_
    repeat' split
    all_goals rfl
  · rw [hN.2.1, hN.2.2.1, if_pos rfl, if_pos rfl]
    exact ⟨_, rfl, rfl⟩
theorem eq_pages {h g : hp} (hV : INV h g) (x : Int32) : ∃ r, f_X5_pages h x = some r ∧ f_X6_pages g x = some r := by
  unfold f_X5_pages f_X6_pages
  rcases hV with hR | hN
  · obtain ⟨I, p, e, n, q, kd, vl, f, w, ip, rg, hG, hw, hrg, hK, hM⟩ := hR
    have hKb := hG.2.2.1
    obtain ⟨⟨k0, k5, k6, k7, k8⟩, -, -, -, -, hSN⟩ := hK
    obtain ⟨⟨m0, m9, m11, m15, m17, m21, m22⟩, m16, ⟨m1, m5, m8, m10⟩, -⟩ := hM
    rw [k5, m9, if_neg (show ¬ (1 : Int32) = 0 by decide), if_neg (show ¬ (1 : Int32) = 0 by decide), hSN.1.1, m17]
    by_cases c1 : x < 0
    · rw [if_pos c1, if_pos c1]; exact ⟨_, rfl, rfl⟩
    · rw [if_neg c1, if_neg c1]
      by_cases c2 : nI (e / I + 1) ≤ x
      · rw [if_neg (Int32.not_lt.mpr c2), if_pos c2]; exact ⟨_, rfl, rfl⟩
      · rw [if_pos (Int32.not_le.mp c2), if_neg c2]
        generalize e / I = K at *
        obtain ⟨k, hk, rfl⟩ := in_lt (by omega) c1 c2
        rw [gd_pos (nI_in (show k < 40 by omega) (by decide)), gd_pos (nI_in (show k < 40 by omega) (by decide)), nI_clamp (by omega), m8 k hk]
        unfold f_X3_pageCount
        rw [bR_pos rfl, bitCount_ok]
        obtain ⟨⟨-, -, -, -, b5, -⟩, -⟩ := hSN.2 k (by omega)
        exact ⟨_, rfl, by rw [show pgs I (LG q kd vl n) f k = cnt (bitv (h (k + 15) 5)) 32 from cnt_congr 32 (fun j hj => (b5 j hj).symm)]⟩
  · rw [hN.2.1, hN.2.2.1, if_pos rfl, if_pos rfl]
    exact ⟨_, rfl, rfl⟩
theorem eq_log {h g : hp} (hV : INV h g) (x y : Int32) : ∃ r, f_X5_log h x y = some r ∧ f_X6_log g x y = some r := by
  unfold f_X5_log f_X6_log
  rcases hV with hR | hN
  · obtain ⟨I, p, e, n, q, kd, vl, f, w, ip, rg, hG, hw, hrg, hK, hM⟩ := hR
    have hn := hG.2.2.2.1
    obtain ⟨⟨k0, k5, k6, k7, k8⟩, -, ⟨k73, kl⟩, -⟩ := hK
    obtain ⟨⟨m0, m9, m11, m15, m17, m21, m22⟩, m16, ⟨m1, m5, m8, m10⟩, -⟩ := hM
    rw [k5, m9, if_neg (show ¬ (1 : Int32) = 0 by decide), if_neg (show ¬ (1 : Int32) = 0 by decide), k73, m15]
    by_cases c1 : x < 0
    · rw [if_pos c1, if_pos c1]; exact ⟨_, rfl, rfl⟩
    · rw [if_neg c1, if_neg c1]
      by_cases c2 : x < nI n
      · rw [if_pos c2, if_pos c2]
        obtain ⟨k, hk, rfl⟩ := in_lt (N := n) (by omega) c1 (Int32.not_le.mpr c2)
        obtain ⟨a1, a2, a3⟩ := kl k hk
        obtain ⟨b1, b2, b3⟩ := m5 k hk
        rw [nI_clamp (by omega), a1, a2, a3, b1, b2, b3, gd_pos (gin2 (show k < 300 by omega) (by decide)), gd_pos (gin2 (show k < 300 by omega) (by decide)), gd_pos (gin2 (show k < 300 by omega) (by decide))]
        refine same_some ?_
        repeat' split
        all_goals rfl
      · rw [if_neg c2, if_neg c2]; exact ⟨_, rfl, rfl⟩
  · rw [hN.2.1, hN.2.2.1, if_pos rfl, if_pos rfl]
    exact ⟨_, rfl, rfl⟩
end PU
