/-! THE PURE SIDE, 6: the log, counts, sums -/
section PU
def lkp (q : Nat → Nat) : Nat → Nat → Option Nat
  | 0, _ => none
  | n + 1, k => if q n = k then some n else lkp q n k
def LG (q : Nat → Nat) (kd vl : Nat → Int32) (n : Nat) : Nat → Option (Int32 × Int32) := fun k => (lkp q n k).map (fun i => (kd i, vl i))
/-- how many entries lie before a position -/
def cb (q : Nat → Nat) : Nat → Nat → Nat
  | 0, _ => 0
  | n + 1, p => cb q n p + (if q n < p then 1 else 0)
def inc (q : Nat → Nat) (n : Nat) : Prop := ∀ i j, i < j → j < n → q i < q j
theorem inc_le {q : Nat → Nat} {n m : Nat} (h : inc q n) (hm : m ≤ n) : inc q m := fun i j h1 h2 => h i j h1 (by omega)
theorem lkp_some {q : Nat → Nat} : ∀ {n k i : Nat}, lkp q n k = some i → i < n ∧ q i = k := by
  intro n
  induction n with
  | zero => intro k i h; cases h
  | succ n ih =>
    intro k i h
    unfold lkp at h
    by_cases c : q n = k
    · rw [if_pos c] at h
      cases h
      exact ⟨by omega, c⟩
    · rw [if_neg c] at h
      obtain ⟨a, b⟩ := ih h
      exact ⟨by omega, b⟩
theorem lkp_of {q : Nat → Nat} : ∀ {n i : Nat}, inc q n → i < n → lkp q n (q i) = some i := by
  intro n
  induction n with
  | zero => intro i _ h; omega
  | succ n ih =>
    intro i hi h
    unfold lkp
    by_cases c : i = n
    · subst c; rw [if_pos rfl]
    · have := hi i n (by omega) (by omega)
      rw [if_neg (by omega)]
      exact ih (inc_le hi (by omega)) (by omega)
theorem lkp_none {q : Nat → Nat} {n k : Nat} (h : ∀ i, i < n → q i ≠ k) : lkp q n k = none := by
  cases e : lkp q n k with
  | none => rfl
  | some i =>
    obtain ⟨a, b⟩ := lkp_some e
    exact absurd b (h i a)
theorem cb_le (q : Nat → Nat) (p : Nat) : ∀ n, cb q n p ≤ n := by
  intro n
  induction n with
  | zero => exact Nat.le_refl _
  | succ n ih =>
    unfold cb
    by_cases c : q n < p
    · rw [if_pos c]; omega
    · rw [if_neg c]; omega
theorem cb_iff {q : Nat → Nat} {p : Nat} : ∀ {n : Nat}, inc q n → ∀ i, i < n → (i < cb q n p ↔ q i < p) := by
  intro n
  induction n with
  | zero => intro _ i h; omega
  | succ n ih =>
    intro hi i h
    have hl := cb_le q p n
    unfold cb
    by_cases c : q n < p
    · rw [if_pos c]
      have hall : ∀ j, j < n → q j < p := fun j hj => Nat.lt_trans (hi j n hj (by omega)) c
      have hcb : cb q n p = n := by
        rcases Nat.lt_or_ge (cb q n p) n with z | z
        · exact absurd ((ih (inc_le hi (by omega)) _ z).mpr (hall _ z)) (by omega)
        · omega
      by_cases hn : i = n
      · subst hn; exact ⟨fun _ => c, fun _ => by omega⟩
      · exact ⟨fun _ => hall i (by omega), fun _ => by omega⟩
    · rw [if_neg c]
      by_cases hn : i = n
      · subst hn; exact ⟨fun z => by omega, fun z => absurd z c⟩
      · exact ih (inc_le hi (by omega)) i (by omega)
theorem cb_all {q : Nat → Nat} {p n : Nat} (hi : inc q n) (h : ∀ i, i < n → q i < p) : cb q n p = n := by
  rcases Nat.lt_or_ge (cb q n p) n with z | z
  · exact absurd ((cb_iff hi _ z).mpr (h _ z)) (by omega)
  · have := cb_le q p n; omega
/-- behind a position: one more entry just where one lies there -/
theorem cb_step {q : Nat → Nat} {n p : Nat} (hi : inc q n) : cb q n (p + 1) = if cb q n p < n ∧ q (cb q n p) = p then cb q n p + 1 else cb q n p := by
  have key : ∀ m, m ≤ n → (∀ i, i < n → (i < m ↔ q i < p + 1)) → cb q n (p + 1) = m := by
    intro m hm h
    have h1 := cb_le q (p + 1) n
    rcases Nat.lt_trichotomy (cb q n (p + 1)) m with z | z | z
    · exact absurd ((cb_iff hi _ (by omega)).mpr ((h _ (by omega)).mp z)) (by omega)
    · exact z
    · exact absurd ((h _ (by omega)).mpr ((cb_iff hi _ (by omega)).mp z)) (by omega)
  have hl := cb_le q p n
  by_cases c : cb q n p < n ∧ q (cb q n p) = p
  · rw [if_pos c]
    refine key _ (by omega) (fun i hin => ?_)
    constructor
    · intro z
      rcases Nat.lt_or_ge i (cb q n p) with y | y
      · have := (cb_iff hi i hin).mp y; omega
      · obtain rfl : i = cb q n p := by omega
        omega
    · intro z
      rcases Nat.lt_or_ge i (cb q n p + 1) with y | y
      · exact y
      · have := hi (cb q n p) i (by omega) hin; omega
  · rw [if_neg c]
    refine key _ hl (fun i hin => ?_)
    constructor
    · intro z; have := (cb_iff hi i hin).mp z; omega
    · intro z
      rcases Nat.lt_or_ge i (cb q n p) with y | y
      · exact y
      · exfalso
        have h1 : ¬ q i < p := fun w => absurd ((cb_iff hi i hin).mpr w) (by omega)
        have h2 : ¬ q (cb q n p) < p := fun w => absurd ((cb_iff hi _ (by omega)).mpr w) (by omega)
        have h3 : q (cb q n p) ≤ q i := by
          rcases Nat.lt_or_ge (cb q n p) i with w | w
          · exact Nat.le_of_lt (hi _ _ w hin)
          · obtain rfl : i = cb q n p := by omega
            exact Nat.le_refl _
        exact c ⟨by omega, by omega⟩
theorem LG_at {q : Nat → Nat} {kd vl : Nat → Int32} {n p : Nat} (hi : inc q n) : LG q kd vl n p = if cb q n p < n ∧ q (cb q n p) = p then some (kd (cb q n p), vl (cb q n p)) else none := by
  unfold LG
  by_cases c : cb q n p < n ∧ q (cb q n p) = p
  · rw [if_pos c]
    have := lkp_of hi c.1
    rw [c.2] at this
    rw [this]; rfl
  · rw [if_neg c, lkp_none]
    · rfl
    · intro i hin e
      have h1 : ¬ i < cb q n p := fun z => by have := (cb_iff hi i hin).mp z; omega
      have h2 : ¬ q (cb q n p) < p := fun w => absurd ((cb_iff hi _ (by omega)).mpr w) (by omega)
      rcases Nat.lt_or_ge (cb q n p) i with w | w
      · have := hi _ _ w hin; omega
      · obtain rfl : i = cb q n p := by omega
        exact c ⟨hin, e⟩
/-- the class's search by jumps that halve -/
theorem cb_loop {h : hp} {q : Nat → Nat} {n p : Nat} (hn : n ≤ 300) (h3 : h 7 3 = nI n) (hq : ∀ i, i < n → h 8 i = nI (q i)) (hb : ∀ i, i < n → q i < 2 ^ 30) (hp : p < 2 ^ 30) (hi : inc q n) :
    ∀ s m b, b ≤ cb q n p → cb q n p < b + 2 ^ s → s < m → s ≤ 9 → f_X1_countBefore_6 m h (nI p) (nI b) (nI (2 ^ s / 2)) = some (nI (cb q n p)) := by
  have hl := cb_le q p n
  intro s
  induction s with
  | zero =>
    intro m b h1 h2 hm _
    obtain ⟨m, rfl⟩ : ∃ k, m = k + 1 := ⟨m - 1, by omega⟩
    obtain rfl : b = cb q n p := by simp at h2; omega
    rw [f_X1_countBefore_6]
    rw [if_pos (show nI (2 ^ 0 / 2) ≤ 0 from by decide)]
  | succ s ih =>
    intro m b h1 h2 hm h9
    obtain ⟨m, rfl⟩ : ∃ k, m = k + 1 := ⟨m - 1, by omega⟩
    have hs : (2 : Nat) ^ s ≤ 256 := Nat.le_trans (Nat.pow_le_pow_right (by decide) (show s ≤ 8 by omega)) (by decide)
    have hs0 : 0 < (2 : Nat) ^ s := Nat.pow_pos (by decide)
    have e2 : (2 : Nat) ^ (s + 1) / 2 = 2 ^ s := by rw [Nat.pow_succ]; omega
    rw [Nat.pow_succ] at h2
    rw [e2, f_X1_countBefore_6, if_neg (nI_nle hs0 (by omega))]
    simp only [gl]
    rw [h3, nI_add, show nI (2 ^ s) / 2 = nI (2 ^ s / 2) from pk_div (d := 2) (by omega) (by decide) (by decide)]
    by_cases c1 : n < b + 2 ^ s
    · rw [if_pos (nI_lt c1 (by omega))]
      exact ih m b h1 (by omega) (by omega) (by omega)
    · rw [if_neg (nI_nlt (by omega) (by omega))]
      have e3 : nI (b + 2 ^ s) - 1 = nI (b + 2 ^ s - 1) := by
        have := pk_sub (a := b + 2 ^ s) (b := 1) (by omega)
        exact this
      rw [e3, gd_pos (nI_in (by omega) (by decide)), nI_clamp (by omega), hq _ (by omega)]
      have hqb := hb (b + 2 ^ s - 1) (by omega)
      have hiff := cb_iff (p := p) hi (b + 2 ^ s - 1) (by omega)
      by_cases c2 : p ≤ q (b + 2 ^ s - 1)
      · rw [if_pos (nI_le c2 (by omega))]
        exact ih m b h1 (by omega) (by omega) (by omega)
      · rw [if_neg (nI_ge (by omega) (by omega))]
        exact ih m (b + 2 ^ s) (by omega) (by omega) (by omega) (by omega)
theorem cb_class {h : hp} {q : Nat → Nat} {n p : Nat} (hn : n ≤ 300) (h3 : h 7 3 = nI n) (hq : ∀ i, i < n → h 8 i = nI (q i)) (hb : ∀ i, i < n → q i < 2 ^ 30) (hp : p < 2 ^ 30) (hi : inc q n) : f_X1_countBefore h (nI p) = some (nI (cb q n p)) := by
  have hl := cb_le q p n
  exact cb_loop hn h3 hq hb hp hi 9 1000 0 (Nat.zero_le _) (by omega) (by decide) (by decide)
/-- counts of flags, sums -/
def cnt (r : Nat → Int32) : Nat → Nat
  | 0 => 0
  | n + 1 => cnt r n + (if r n = 0 then 0 else 1)
theorem cnt_le (r : Nat → Int32) : ∀ n, cnt r n ≤ n := by
  intro n
  induction n with
  | zero => exact Nat.le_refl _
  | succ n ih =>
    unfold cnt
    by_cases c : r n = 0
    · rw [if_pos c]; omega
    · rw [if_neg c]; omega
theorem cnt_mono (r : Nat → Int32) {m n : Nat} (h : m ≤ n) : cnt r m ≤ cnt r n := by
  induction n with
  | zero => obtain rfl : m = 0 := by omega
            exact Nat.le_refl _
  | succ n ih =>
    rcases Nat.lt_or_ge m (n + 1) with q | q
    · have := ih (by omega)
      show cnt r m ≤ cnt r n + (if r n = 0 then 0 else 1)
      omega
    · obtain rfl : m = n + 1 := by omega
      exact Nat.le_refl _
theorem cnt_congr {r s : Nat → Int32} : ∀ n, (∀ k, k < n → r k = s k) → cnt r n = cnt s n := by
  intro n
  induction n with
  | zero => intro _; rfl
  | succ n ih =>
    intro h
    unfold cnt
    rw [ih (fun k hk => h k (by omega)), h n (by omega)]
def sm (f : Nat → Nat) : Nat → Nat
  | 0 => 0
  | n + 1 => sm f n + f n
theorem sm_congr {f g : Nat → Nat} : ∀ n, (∀ k, k < n → f k = g k) → sm f n = sm g n := by
  intro n
  induction n with
  | zero => intro _; rfl
  | succ n ih =>
    intro h
    unfold sm
    rw [ih (fun k hk => h k (by omega)), h n (by omega)]
theorem sm_mono (f : Nat → Nat) {m n : Nat} (h : m ≤ n) : sm f m ≤ sm f n := by
  induction n with
  | zero => obtain rfl : m = 0 := by omega
            exact Nat.le_refl _
  | succ n ih =>
    rcases Nat.lt_or_ge m (n + 1) with q | q
    · have := ih (by omega)
      show sm f m ≤ sm f n + f n
      omega
    · obtain rfl : m = n + 1 := by omega
      exact Nat.le_refl _
theorem wp_loop (g : hp) : ∀ m j, j ≤ 32 → 32 - j < m → f_X6_writtenPages_4 m g (nI (cnt (g 9) j)) (nI j) = some (nI (cnt (g 9) 32)) := by
  intro m
  induction m with
  | zero => intro j h1 h2; omega
  | succ m ih =>
    intro j h1 h2
    rw [f_X6_writtenPages_4]
    by_cases c : 32 ≤ j
    · obtain rfl : j = 32 := by omega
      rw [if_pos (by decide)]
    · rw [if_neg (show ¬ (32 : Int32) ≤ nI j from nI_ge (b := 32) (by omega) (by decide)), gd_pos (nI_in (by omega) (by decide)), nI_clamp (by omega), nI_1]
      simp only [gl]
      by_cases z : g 9 j = 0
      · rw [if_pos z]
        have e : nI (cnt (g 9) j) + 0 = nI (cnt (g 9) (j + 1)) := by
          show nI (cnt (g 9) j) + nI 0 = nI (cnt (g 9) j + if g 9 j = 0 then 0 else 1)
          rw [if_pos z, nI_add]
        rw [e]
        exact ih (j + 1) (by omega) (by omega)
      · rw [if_neg z]
        have e : nI (cnt (g 9) j) + 1 = nI (cnt (g 9) (j + 1)) := by
          show nI (cnt (g 9) j) + nI 1 = nI (cnt (g 9) j + if g 9 j = 0 then 0 else 1)
          rw [if_neg z, nI_add]
        rw [e]
        exact ih (j + 1) (by omega) (by omega)
theorem wp_model (g : hp) : f_X6_writtenPages g = some (nI (cnt (g 9) 32)) := wp_loop g 1000 0 (by omega) (by omega)
theorem ap_loop {g : hp} {pg : Nat → Nat} {K : Nat} (hK : K ≤ 40) (h17 : g 0 17 = nI K) (h8 : ∀ k, k < K → g 8 k = nI (pg k)) : ∀ m j, j ≤ K → K - j < m → f_X6_allPages_4 m g (nI (sm pg j)) (nI j) = some (nI (sm pg K)) := by
  intro m
  induction m with
  | zero => intro j h1 h2; omega
  | succ m ih =>
    intro j h1 h2
    rw [f_X6_allPages_4, h17]
    by_cases c : K ≤ j
    · obtain rfl : j = K := by omega
      rw [if_pos (nI_le (Nat.le_refl _) (by omega))]
    · rw [if_neg (nI_ge (by omega) (by omega)), gd_pos (nI_in (by omega) (by decide)), nI_clamp (by omega), nI_1, h8 j (by omega), nI_add]
      simp only [gl]
      exact ih (j + 1) (by omega) (by omega)
theorem ap_model {g : hp} {pg : Nat → Nat} {K : Nat} (hK : K ≤ 40) (h17 : g 0 17 = nI K) (h8 : ∀ k, k < K → g 8 k = nI (pg k)) : f_X6_allPages g = some (nI (sm pg K)) := ap_loop hK h17 h8 1000 0 (Nat.zero_le _) (by omega)
end PU
