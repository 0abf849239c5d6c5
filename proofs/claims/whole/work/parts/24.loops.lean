/-! THE PURE SIDE, 5: loops that fill a row; the reference's pass, rewind, start -/
section PU
def fillr (h : hp) (R j N : Nat) (v : Nat → Int32) : hp := va_up h R (fun k => if j ≤ k ∧ k < N then v k else h R k)
theorem fillr_ne {h : hp} {R j N : Nat} {v : Nat → Int32} {r : Nat} (hr : r ≠ R) : fillr h R j N v r = h r := vu_ne _ _ _ hr
theorem fillr_in {h : hp} {R N : Nat} {v : Nat → Int32} {k : Nat} (hk : k < N) : fillr h R 0 N v R k = v k := by
  unfold fillr
  rw [vu_at, if_pos ⟨Nat.zero_le _, hk⟩]
theorem loop_fill {β : Type} (F : Nat → hp → Int32 → Option β) (N R : Nat) (v : hp → Nat → Int32) (cont : hp → Option β) (hv : ∀ h j w k, v (u2 h R j w) k = v h k)
    (hrec : ∀ n h j, j ≤ N → F (n + 1) h (nI j) = if N ≤ j then cont h else F n (u2 h R j (v h j)) (nI (j + 1))) : ∀ n h j, j ≤ N → N - j < n → F n h (nI j) = cont (fillr h R j N (v h)) := by
  intro n
  induction n with
  | zero => intro h j h1 h2; omega
  | succ n ih =>
    intro h j h1 h2
    rw [hrec n h j h1]
    by_cases hj : N ≤ j
    · rw [if_pos hj]
      congr 1
      funext r k
      unfold fillr
      by_cases hr : r = R
      · subst hr
        rw [vu_at, if_neg (by omega)]
      · rw [vu_ne _ _ _ hr]
    · rw [if_neg hj, ih _ _ (by omega) (by omega)]
      congr 1
      funext r k
      unfold fillr
      by_cases hr : r = R
      · subst hr
        rw [vu_at, vu_at, hv]
        by_cases hk : k = j
        · subst hk
          rw [if_neg (by omega), if_pos (by omega)]
          simp [u2_app]
        · by_cases hk2 : j + 1 ≤ k ∧ k < N
          · rw [if_pos hk2, if_pos (by omega)]
          · rw [if_neg hk2, if_neg (by omega)]
            simp [u2_app, hk]
      · rw [vu_ne _ _ _ hr, vu_ne _ _ _ hr, u2_ne _ _ _ _ _ hr]
theorem le_nI {j N : Nat} (hN : N < 2 ^ 31) (hj : j ≤ N) : (nI N ≤ nI j) = (N ≤ j) := propext ⟨fun h => (nI_leI hN (by omega)).mp h, fun h => (nI_leI hN (by omega)).mpr h⟩
theorem pass_loop (n : Nat) (h : hp) (hn : 32 < n) : f_X6_pass_25 n h 0 = some (fillr h 9 0 32 (fun _ => 0)) := by
  refine loop_fill f_X6_pass_25 32 9 (fun _ _ => 0) (fun h => some h) (fun _ _ _ _ => rfl) (fun n h j hj => ?_) n h 0 (by omega) (by omega)
  rw [f_X6_pass_25]
  by_cases c : 32 ≤ j
  · rw [if_pos c, if_pos (show (32 : Int32) ≤ nI j from nI_le (a := 32) c (by omega))]
  · rw [if_neg c, if_neg (show ¬ (32 : Int32) ≤ nI j from nI_ge (b := 32) (by omega) (by decide)), gd_pos (nI_in (by omega) (by decide)), nI_clamp (by omega), nI_1]
theorem rem_nI {a d : Nat} (ha : a < 2 ^ 31) (h0 : 0 < d) (hd : d < 2 ^ 31) : (nI a - nI a / nI d * nI d = 0) = (a % d = 0) := by
  rw [pk_rem ha h0 hd]
  apply propext
  constructor
  · intro h
    exact (nI_eq (by have := Nat.mod_lt a h0; omega) (by decide)).mp h
  · intro h
    rw [h]; rfl
theorem nI_n0 {d : Nat} (h0 : 0 < d) (hd : d < 2 ^ 31) : ¬ nI d = 0 := nI_ne0 h0 hd
/-- the reference's pass -/
theorem pass_model {g : hp} {I p : Nat} (hI : 2 ≤ I ∧ I ≤ 64) (h0 : g 0 0 = nI I) (hp : p < 2 ^ 30) (h10 : g 0 10 = nI p) :
    ∃ g', f_X6_pass g = some g' ∧ (∀ r, r ≠ 0 → r ≠ 9 → g' r = g r) ∧ (∀ k, k ≠ 10 → g' 0 k = g 0 k) ∧ g' 0 10 = nI (p + 1) ∧ ∀ k, k < 32 → g' 9 k = if (p + 1) % I = 0 then 0 else g 9 k := by
  unfold f_X6_pass
  rw [h0, h10, gd_pos (nI_n0 (by omega) (by omega)), nI_1]
  by_cases c : (p + 1) % I = 0
  · rw [if_pos (by rw [rem_nI (by omega) (by omega) (by omega)]; exact c), pass_loop _ _ (by decide)]
    refine ⟨_, rfl, fun r h1 h2 => ?_, fun k hk => ?_, ?_, fun k hk => ?_⟩
    · rw [fillr_ne h2, u2_ne _ _ _ _ _ h1]
    · rw [fillr_ne (by decide)]; simp [u2_app, hk]
    · rw [fillr_ne (by decide)]; simp [u2_app]
    · rw [fillr_in hk, if_pos c]
  · rw [if_neg (by rw [rem_nI (by omega) (by omega) (by omega)]; exact c)]
    refine ⟨_, rfl, fun r h1 h2 => ?_, fun k hk => ?_, ?_, fun k hk => ?_⟩
    · rw [u2_ne _ _ _ _ _ h1]
    · simp [u2_app, hk]
    · simp [u2_app]
    · rw [if_neg c, u2_ne _ _ _ _ _ (by decide)]
theorem rew50 (n : Nat) (h : hp) (hn : 32 < n) : f_X6_rewind_50 n h 0 = some (u2 (u2 (u2 (u2 (u2 (u2 (fillr h 9 0 32 (fun _ => 0)) 0 4 0) 0 5 0) 0 6 0) 0 8 0) 0 10 0) 0 16 0) := by
  refine loop_fill f_X6_rewind_50 32 9 (fun _ _ => 0) (fun h => some (u2 (u2 (u2 (u2 (u2 (u2 h 0 4 0) 0 5 0) 0 6 0) 0 8 0) 0 10 0) 0 16 0)) (fun _ _ _ _ => rfl) (fun n h j hj => ?_) n h 0 (by omega) (by omega)
  rw [f_X6_rewind_50]
  by_cases c : 32 ≤ j
  · rw [if_pos c, if_pos (show (32 : Int32) ≤ nI j from nI_le (a := 32) c (by omega))]
  · rw [if_neg c, if_neg (show ¬ (32 : Int32) ≤ nI j from nI_ge (b := 32) (by omega) (by decide)), gd_pos (nI_in (by omega) (by decide)), nI_clamp (by omega), nI_1]
theorem rew29 (n : Nat) (h : hp) (hn : 8 < n) : f_X6_rewind_29 n h 0 = f_X6_rewind_50 1000 (fillr h 3 0 8 (fun _ => 0)) 0 := by
  refine loop_fill f_X6_rewind_29 8 3 (fun _ _ => 0) (fun h => f_X6_rewind_50 1000 h 0) (fun _ _ _ _ => rfl) (fun n h j hj => ?_) n h 0 (by omega) (by omega)
  rw [f_X6_rewind_29]
  by_cases c : 8 ≤ j
  · rw [if_pos c, if_pos (show (8 : Int32) ≤ nI j from nI_le (a := 8) c (by omega))]
  · rw [if_neg c, if_neg (show ¬ (8 : Int32) ≤ nI j from nI_ge (b := 8) (by omega) (by decide)), gd_pos (nI_in (by omega) (by decide)), nI_clamp (by omega), nI_1]
theorem rew2 (n : Nat) (h : hp) (hn : 512 < n) : f_X6_rewind_2 n h 0 = f_X6_rewind_29 1000 (fillr h 2 0 512 (h 1)) 0 := by
  refine loop_fill f_X6_rewind_2 512 2 (fun h => h 1) (fun h => f_X6_rewind_29 1000 h 0) (fun h j w k => by simp [u2_app]) (fun n h j hj => ?_) n h 0 (by omega) (by omega)
  rw [f_X6_rewind_2]
  by_cases c : 512 ≤ j
  · rw [if_pos c, if_pos (show (512 : Int32) ≤ nI j from nI_le (a := 512) c (by omega))]
  · rw [if_neg c, if_neg (show ¬ (512 : Int32) ≤ nI j from nI_ge (b := 512) (by omega) (by decide)), gd_pos (nI_in (by omega) (by decide)), gd_pos (nI_in (by omega) (by decide)), nI_clamp (by omega), nI_1]
/-- the machine with which a record begins -/
def ini (f : Nat → Int32) : hp := fun r k => if r = 2 then f k else 0
/-- the reference's rewind -/
theorem rewind_model {g : hp} {f : Nat → Int32} (hf : ∀ k, k < 512 → g 1 k = f k) :
    ∃ g', f_X6_rewind g = some g' ∧ (∀ r, r ≠ 0 → r ≠ 2 → r ≠ 3 → r ≠ 9 → g' r = g r) ∧ (∀ k, k ≠ 4 → k ≠ 5 → k ≠ 6 → k ≠ 8 → k ≠ 10 → k ≠ 16 → g' 0 k = g 0 k) ∧ g' 0 16 = 0 ∧ ME g' (ini f) := by
  unfold f_X6_rewind
  rw [rew2 _ _ (by decide), rew29 _ _ (by decide), rew50 _ _ (by decide)]
  refine ⟨_, rfl, fun r h0 h2 h3 h9 => ?_, fun k h4 h5 h6 h8 h10 h16 => ?_, by simp [u2_app], ?_⟩
  · rw [u2_ne _ _ _ _ _ h0, u2_ne _ _ _ _ _ h0, u2_ne _ _ _ _ _ h0, u2_ne _ _ _ _ _ h0, u2_ne _ _ _ _ _ h0, u2_ne _ _ _ _ _ h0, fillr_ne h9, fillr_ne h3, fillr_ne h2]
  · simp [u2_app, h4, h5, h6, h8, h10, h16]
    rw [fillr_ne (by decide), fillr_ne (by decide), fillr_ne (by decide)]
  · refine ME.of ?_ ?_ ?_ ?_ ?_ (fun k hk => ?_) (fun k hk => ?_) (fun k hk => ?_)
    · simp [u2_app, ini]
    · simp [u2_app, ini]
    · simp [u2_app, ini]
    · simp [u2_app, ini]
    · simp [u2_app, ini]
    · simp only [u2_app, ini]
      simp
      rw [fillr_ne (by decide), fillr_ne (by decide), fillr_in hk]
      exact hf k hk
    · simp only [u2_app, ini]
      simp
      rw [fillr_ne (by decide), fillr_in hk]
    · simp only [u2_app, ini]
      simp
      rw [fillr_in hk]
theorem sta2 (n : Nat) (h : hp) (hn : 512 < n) : f_X6_start_2 n h 0 = bV (f_X6_rewind (u2 (u2 (u2 (u2 (u2 (u2 (u2 (fillr h 1 0 512 (h 2)) 0 9 1) 0 11 0) 0 15 0) 0 17 1) 8 (0 : Int32).toNatClampNeg 0) 0 21 0) 0 22 0)) (fun h3 => some h3) := by
  refine loop_fill f_X6_start_2 512 1 (fun h => h 2) (fun h => bV (f_X6_rewind (u2 (u2 (u2 (u2 (u2 (u2 (u2 h 0 9 1) 0 11 0) 0 15 0) 0 17 1) 8 (0 : Int32).toNatClampNeg 0) 0 21 0) 0 22 0)) (fun h3 => some h3)) (fun h j w k => by simp [u2_app]) (fun n h j hj => ?_) n h 0 (by omega) (by omega)
  rw [f_X6_start_2]
  by_cases c : 512 ≤ j
  · rw [if_pos c, if_pos (show (512 : Int32) ≤ nI j from nI_le (a := 512) c (by omega))]
  · rw [if_neg c, if_neg (show ¬ (512 : Int32) ≤ nI j from nI_ge (b := 512) (by omega) (by decide)), gd_pos (nI_in (by omega) (by decide)), gd_pos (nI_in (by omega) (by decide)), nI_clamp (by omega), nI_1]
theorem fill_class (n : Nat) (h : hp) (hn : 8 < n) : f_J7_fill_53178_5 n h 0 0 8 = some (fillr h 2 0 8 (fun _ => 0)) := by
  refine loop_fill (fun n h x => f_J7_fill_53178_5 n h 0 x 8) 8 2 (fun _ _ => 0) (fun h => some h) (fun _ _ _ _ => rfl) (fun n h j hj => ?_) n h 0 (by omega) (by omega)
  show f_J7_fill_53178_5 (n + 1) h 0 (nI j) 8 = _
  rw [f_J7_fill_53178_5]
  by_cases c : 8 ≤ j
  · rw [if_pos c, if_pos (show (8 : Int32) ≤ nI j from nI_le (a := 8) c (by omega))]
  · rw [if_neg c, if_neg (show ¬ (8 : Int32) ≤ nI j from nI_ge (b := 8) (by omega) (by decide)), gd_pos (nI_in (by omega) (by decide)), nI_clamp (by omega), nI_1]
end PU
