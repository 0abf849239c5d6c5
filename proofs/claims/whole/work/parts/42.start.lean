/-! THE PURE SIDE, 23: start -/
section PU
theorem cnt_0 {r : Nat → Int32} : ∀ n, (∀ k, k < n → r k = 0) → cnt r n = 0 := by
  intro n
  induction n with
  | zero => intro _; rfl
  | succ n ih =>
    intro h
    show cnt r n + (if r n = 0 then 0 else 1) = 0
    rw [ih (fun k hk => h k (by omega)), if_pos (h n (by omega))]
theorem bitv_0 (k : Nat) : bitv 0 k = 0 := by simp [bitv]
theorem pgs_0 (I : Nat) (L : Nat → Option (Int32 × Int32)) (f : Nat → Int32) : pgs I L f 0 = 0 := cnt_0 32 (fun _ _ => rfl)
theorem FPs_1 (I : Nat) (L : Nat → Option (Int32 × Int32)) (f : Nat → Int32) : FPs I L f 1 = 0 := by
  show sm (pgs I L f) 0 + pgs I L f 0 = 0
  rw [pgs_0]; rfl
theorem GOK_0 {I : Nat} (hI : 2 ≤ I ∧ I ≤ 64) (f : Nat → Int32) : GOK I 0 0 0 (fun _ => 0) (fun _ => 0) (fun _ => 0) f :=
  ⟨hI, Nat.le_refl _, by rw [Nat.zero_div]; decide, by decide, fun i j _ h => by omega, fun i h => by omega, fun i h => by omega, by rw [Nat.zero_div, FPs_1]; decide⟩
theorem start_class {h : hp} {I : Nat} (hI : 2 ≤ I ∧ I ≤ 64) (h0 : h 0 0 = nI I) : ∃ h', f_X5_start h = some h' ∧ KI I 0 0 0 (fun _ => 0) (fun _ => 0) (fun _ => 0) (h 3) 0 (fun _ => 0) 0 h' := by
  unfold f_X5_start f_X2_reset f_J7_fill_53178
  rw [fill_class _ _ (by decide), bV_pos rfl, bV_pos rfl]
  unfold f_X0_clear
  rw [bV_pos rfl]
  unfold f_X4_begin
  generalize hb : u2 (u2 (u2 (u2 (u2 (u2 (u2 (u2 (fillr h 2 0 8 (fun _ => 0)) 1 3 0) 1 4 0) 1 5 0) 1 6 0) 1 7 0) 5 1 0) 5 2 0) 7 3 0 = b
  have b3 : b 3 = h 3 := by rw [← hb]; simp [u2_ne]; exact fillr_ne (by decide)
  have b0 : b 0 = h 0 := by rw [← hb]; simp [u2_ne]; exact fillr_ne (by decide)
  have b1 : b 1 3 = 0 ∧ b 1 4 = 0 ∧ b 1 5 = 0 ∧ b 1 6 = 0 ∧ b 1 7 = 0 := by rw [← hb]; simp [u2_app]
  have b5 : b 5 1 = 0 ∧ b 5 2 = 0 := by rw [← hb]; simp [u2_app]
  have b7 : b 7 3 = 0 := by rw [← hb]; simp [u2_app]
  have b2 : ∀ i, i < 8 → b 2 i = 0 := fun i hi => by
    rw [← hb]
    simp [u2_ne]
    exact fillr_in hi
  generalize ha : u2 (u2 (va_up b 12 (va_cpy (b 3) (b 12) (0 : Int32).toNatClampNeg (0 : Int32).toNatClampNeg (512 : Int32).toNatClampNeg)) 11 3 0) 11 4 0 = a
  have ar : ∀ i, i ≠ 11 → i ≠ 12 → a i = b i := fun i i11 i12 => by rw [← ha, u2_ne _ _ _ _ _ i11, u2_ne _ _ _ _ _ i11, vu_ne _ _ _ i12]
  have a12 : ∀ x, x < 512 → a 12 x = h 3 x := fun x hx => by
    rw [← ha, u2_ne _ _ _ _ _ (by decide), u2_ne _ _ _ _ _ (by decide), vu_at, show (0 : Int32).toNatClampNeg = 0 from by decide, show (512 : Int32).toNatClampNeg = 512 from by decide, cpy_in (by omega) (by omega), b3]
    congr 1; omega
  have a17 : a 1 7 = 0 := by rw [ar 1 (by decide) (by decide)]; exact b1.2.2.2.2
  have hc0 : cnt (bitv (a 1 7)) 32 = 0 := cnt_0 32 (fun k _ => by rw [a17]; exact bitv_0 k)
  obtain ⟨c, e1, e2, e3, e4, ⟨f1, f2, f3, f4, f5, f6⟩, e6, e7, e8⟩ := add_class (h := a) (K := 0) (F := 0) (by decide) (by rw [← ha]; simp [u2_app]; rfl) (by rw [← ha]; simp [u2_app]; rfl) (by rw [hc0]; decide) (by rw [ar 1 (by decide) (by decide)]; exact Or.inl b1.2.2.1)
  rw [e1, bV_pos rfl, bV_pos rfl]
  have cr : ∀ i, i ≠ 11 → i ≠ 12 → i ≠ 13 → i ≠ 15 → i ≠ 55 → c i = b i := fun i i11 i12 i13 i15 i55 => by rw [e2 i i11 i13 i15 i55, ar i i11 i12]
  have dr : ∀ i, i ≠ 0 → (u2 (u2 (u2 (u2 c 0 5 1) 0 6 0) 0 7 0) 0 8 0) i = c i := fun i i0 => by rw [u2_ne _ _ _ _ _ i0, u2_ne _ _ _ _ _ i0, u2_ne _ _ _ _ _ i0, u2_ne _ _ _ _ _ i0]
  refine ⟨_, rfl, ⟨?_, ?_, ?_, ?_, ?_⟩, ⟨0, by decide, ?_, ?_, fun i hi => by omega⟩, ⟨?_, fun i hi => by omega⟩, ME.of ?_ ?_ ?_ ?_ ?_ (fun k hk => ?_) (fun k hk => ?_) (fun k hk => ?_), fun k hk hlt => absurd hlt (nI_pos (by omega)), ⟨⟨?_, ?_, ?_⟩, fun k hk => ?_⟩⟩
  · simp [u2_app]; rw [cr 0 (by decide) (by decide) (by decide) (by decide) (by decide), b0]; exact h0
  · simp [u2_app]
  · simp [u2_app]
  · simp [u2_app]; rfl
  · simp [u2_app]; rfl
  · rw [dr 5 (by decide), cr 5 (by decide) (by decide) (by decide) (by decide) (by decide)]; exact b5.1
  · rw [dr 5 (by decide), cr 5 (by decide) (by decide) (by decide) (by decide) (by decide)]; exact b5.2
  · rw [dr 7 (by decide), cr 7 (by decide) (by decide) (by decide) (by decide) (by decide)]; exact b7
  · show (u2 (u2 (u2 (u2 c 0 5 1) 0 6 0) 0 7 0) 0 8 0) 1 3 = 0
    rw [dr 1 (by decide), cr 1 (by decide) (by decide) (by decide) (by decide) (by decide)]; exact b1.1
  · show (u2 (u2 (u2 (u2 c 0 5 1) 0 6 0) 0 7 0) 0 8 0) 1 4 = 0
    rw [dr 1 (by decide), cr 1 (by decide) (by decide) (by decide) (by decide) (by decide)]; exact b1.2.1
  · show (u2 (u2 (u2 (u2 c 0 5 1) 0 6 0) 0 7 0) 0 8 0) 1 5 = 0
    rw [dr 1 (by decide), cr 1 (by decide) (by decide) (by decide) (by decide) (by decide)]; exact b1.2.2.1
  · show (u2 (u2 (u2 (u2 c 0 5 1) 0 6 0) 0 7 0) 0 8 0) 1 6 = 0
    rw [dr 1 (by decide), cr 1 (by decide) (by decide) (by decide) (by decide) (by decide)]; exact b1.2.2.2.1
  · show (u2 (u2 (u2 (u2 c 0 5 1) 0 6 0) 0 7 0) 0 8 0) 0 7 = 0
    simp [u2_app]
  · show (u2 (u2 (u2 (u2 c 0 5 1) 0 6 0) 0 7 0) 0 8 0) 3 k = h 3 k
    rw [dr 3 (by decide), cr 3 (by decide) (by decide) (by decide) (by decide) (by decide), b3]
  · show (u2 (u2 (u2 (u2 c 0 5 1) 0 6 0) 0 7 0) 0 8 0) 2 k = 0
    rw [dr 2 (by decide), cr 2 (by decide) (by decide) (by decide) (by decide) (by decide)]; exact b2 k hk
  · show bitv ((u2 (u2 (u2 (u2 c 0 5 1) 0 6 0) 0 7 0) 0 8 0) 1 7) k = 0
    rw [dr 1 (by decide), cr 1 (by decide) (by decide) (by decide) (by decide) (by decide), b1.2.2.2.2]; exact bitv_0 k
  · rw [Nat.zero_div, dr 11 (by decide)]; exact e3
  · rw [Nat.zero_div, dr 11 (by decide), e4, hc0, FPs_1]
  · intro x hx
    rw [dr 12 (by decide), e2 12 (by decide) (by decide) (by decide) (by decide)]; exact a12 x hx
  · rw [Nat.zero_div] at hk
    obtain rfl : k = 0 := by omega
    rw [dr (0 + 15) (by decide), dr (0 + 55) (by decide), dr 13 (by decide), Nat.zero_mul]
    refine ⟨⟨?_, ?_, ?_, ?_, fun j hj => ?_, f6⟩, fun i hi => ?_, fun j hj hr => absurd rfl hr⟩
    · rw [f1, ar 1 (by decide) (by decide)]; exact b1.1
    · rw [f2, ar 1 (by decide) (by decide)]; exact b1.2.1
    · rw [f3, ar 1 (by decide) (by decide)]; exact b1.2.2.1
    · rw [f4, ar 1 (by decide) (by decide)]; exact b1.2.2.2.1
    · rw [f5, a17]; exact bitv_0 j
    · rw [e6 i hi, ar 2 (by decide) (by decide)]; exact b2 i hi
theorem start_model {g : hp} {I : Nat} {f : Nat → Int32} (h0 : g 0 0 = nI I) (hf : ∀ k, k < 512 → g 2 k = f k) : ∃ g', f_X6_start g = some g' ∧ MI I 0 0 0 (fun _ => 0) (fun _ => 0) (fun _ => 0) f 0 (fun _ => 0) 0 g' := by
  unfold f_X6_start
  rw [sta2 _ _ (by decide)]
  generalize hb : u2 (u2 (u2 (u2 (u2 (u2 (u2 (fillr g 1 0 512 (g 2)) 0 9 1) 0 11 0) 0 15 0) 0 17 1) 8 (0 : Int32).toNatClampNeg 0) 0 21 0) 0 22 0 = b
  obtain ⟨g', a1, a2, a3, a4, a5⟩ := rewind_model (g := b) (f := f) (fun k hk => by rw [← hb]; simp [u2_app]; rw [fillr_in hk]; exact hf k hk)
  rw [a1, bV_pos rfl]
  refine ⟨g', rfl, ⟨?_, ?_, ?_, ?_, ?_, ?_, ?_⟩, by rw [a4]; rfl, ⟨?_, fun i hi => by omega, fun k hk => ?_, fun i hi => by omega⟩, a5, fun i hi hlt => absurd hlt (nI_pos (by omega))⟩
  · rw [a3 0 (by decide) (by decide) (by decide) (by decide) (by decide) (by decide), ← hb]; simp [u2_app]; rw [fillr_ne (by decide)]; exact h0
  · rw [a3 9 (by decide) (by decide) (by decide) (by decide) (by decide) (by decide), ← hb]; simp [u2_app]
  · rw [a3 11 (by decide) (by decide) (by decide) (by decide) (by decide) (by decide), ← hb]; simp [u2_app]; rfl
  · rw [a3 15 (by decide) (by decide) (by decide) (by decide) (by decide) (by decide), ← hb]; simp [u2_app]; rfl
  · rw [a3 17 (by decide) (by decide) (by decide) (by decide) (by decide) (by decide), ← hb]; simp [u2_app]; rfl
  · rw [a3 21 (by decide) (by decide) (by decide) (by decide) (by decide) (by decide), ← hb]; simp [u2_app]; rfl
  · rw [a3 22 (by decide) (by decide) (by decide) (by decide) (by decide) (by decide), ← hb]; simp [u2_app]
  · rw [a2 1 (by decide) (by decide) (by decide) (by decide), ← hb]
    intro k hk
    simp [u2_app]; rw [fillr_in hk]; exact hf k hk
  · rw [Nat.zero_div] at hk
    obtain rfl : k = 0 := by omega
    rw [a2 8 (by decide) (by decide) (by decide) (by decide), ← hb, pgs_0]
    simp [u2_app, show (0 : Int32).toNatClampNeg = 0 from by decide]
    rfl
theorem eq_start {h g : hp} (hV : INV h g) : ∃ h' g', f_X5_start h = some h' ∧ f_X6_start g = some g' ∧ INV h' g' := by
  obtain ⟨I, hI, e1, e2⟩ := inv_I hV
  obtain ⟨hM, -⟩ := mview hV
  obtain ⟨h', a1, a2⟩ := start_class hI e1
  obtain ⟨g', b1, b2⟩ := start_model (f := h 3) e2 (fun k hk => (hM.mem hk).symm)
  exact ⟨h', g', a1, b1, Or.inl ⟨I, 0, 0, 0, _, _, _, _, 0, _, 0, GOK_0 hI _, by decide, Or.inl rfl, a2, b2⟩⟩
/-- what both are when they are new -/
def k0h (v : Int32) : hp := fun i k => if i = 0 ∧ k = 0 then v else 0
theorem inv_new {I : Nat} (hI : 2 ≤ I ∧ I ≤ 64) : INV (k0h (nI I)) (k0h (nI I)) := by
  refine Or.inr ⟨⟨I, hI, rfl, rfl⟩, rfl, rfl, ME.of rfl rfl rfl rfl rfl (fun _ _ => rfl) (fun _ _ => rfl) (fun k _ => ?_), fun k hk hlt => absurd hlt (nI_pos (by omega)), ⟨⟨0, by decide, rfl⟩, ⟨0, by decide, rfl⟩, Or.inl rfl, fun _ _ => Or.inl rfl⟩, 0, by decide, rfl⟩
  show bitv 0 k = 0
  exact bitv_0 k
end PU
