/-! THE PURE SIDE, 12: a live step: what comes next, whether there is room; the record behind it -/
section PU
theorem cnt_upd {r s : Nat → Int32} {k0 : Nat} (hs : ∀ k, s k = if k = k0 then 1 else r k) : ∀ n, cnt s n = cnt r n + (if k0 < n ∧ r k0 = 0 then 1 else 0) := by
  intro n
  induction n with
  | zero => show 0 = 0 + _; rw [if_neg (by omega)]
  | succ n ih =>
    show cnt s n + (if s n = 0 then 0 else 1) = cnt r n + (if r n = 0 then 0 else 1) + _
    rw [ih, hs n]
    by_cases c : n = k0
    · subst c
      rw [if_pos rfl, if_neg (show ¬ (1 : Int32) = 0 by decide), if_neg (show ¬ (n < n ∧ r n = 0) by omega)]
      by_cases z : r n = 0
      · rw [if_pos z, if_pos ⟨by omega, z⟩]
      · rw [if_neg z, if_neg (fun y => z y.2)]
    · rw [if_neg c]
      by_cases z : k0 < n ∧ r k0 = 0
      · rw [if_pos z, if_pos (show k0 < n + 1 ∧ r k0 = 0 from ⟨by omega, z.2⟩)]; omega
      · rw [if_neg z, if_neg (show ¬ (k0 < n + 1 ∧ r k0 = 0) from fun y => z ⟨by omega, y.2⟩)]; omega
theorem ins_9 (c : hp) (x inp op : Int32) (h : ¬ op = 8) : ins c x inp op 9 = c 9 := by
  unfold ins
  simp only [h, if_false]
  repeat' (refine pit (α := hp) (P := fun d => d 9 = c 9) (fun _ => ?_) (fun _ => ?_))
  all_goals simp [u2_ne]
theorem exi_9 (c : hp) (inp : Int32) (k : Nat) : exi c inp 9 k = if mop (mxw c) = 8 then (if k = (mtg c (mxw c) / 16).toNatClampNeg then 1 else c 9 k) else c 9 k := by
  unfold exi
  by_cases h : mop (mxw c) = 8
  · rw [if_pos h, h]
    simp [ins, u2_app]
  · rw [if_neg h, ins_9 _ _ _ _ h]
/-- the pages that would be written behind a step -/
def AA (ev : Option (Int32 × Int32)) (c : hp) : Nat := cnt (act ev c 9) 32
theorem AA_ME {c d : hp} (h : ME c d) (hv : vld c) (ev : Option (Int32 × Int32)) : AA ev c = AA ev d := cnt_congr 32 (fun k hk => (ME_act h hv ev).wr hk)
theorem exi_cnt (c : hp) (inp : Int32) : cnt (exi c inp 9) 32 = cnt (c 9) 32 + (if mop (mxw c) = 8 ∧ c 9 (mtg c (mxw c) / 16).toNatClampNeg = 0 then 1 else 0) := by
  by_cases h : mop (mxw c) = 8
  · have hs : ∀ k, exi c inp 9 k = if k = (mtg c (mxw c) / 16).toNatClampNeg then 1 else c 9 k := fun k => by rw [exi_9, if_pos h]
    rw [cnt_upd hs 32]
    have hl : (mtg c (mxw c) / 16).toNatClampNeg < 32 := g32b _
    by_cases z : c 9 (mtg c (mxw c) / 16).toNatClampNeg = 0
    · rw [if_pos ⟨hl, z⟩, if_pos ⟨h, z⟩]
    · rw [if_neg (fun y => z y.2), if_neg (fun y => z y.2)]
  · rw [if_neg (fun y => h y.1), cnt_congr 32 (fun k _ => by rw [exi_9, if_neg h])]
    rfl
/-- what the next live step is: 2 a ring, 1 an input, 0 neither; -1 none -/
def lkd (c : hp) (rg : Int32) (w : Nat) : Int32 := if rg = 0 ∨ c 0 6 = 0 then (if mop (mxw c) = 0 then -1 else if mop (mxw c) = 12 then (if w = 0 then -1 else 1) else 0) else 2
def evk (k : Int32) (v : Int32) : Option (Int32 × Int32) := if k = 2 then some (2, 0) else if k = 1 then some (1, v) else none
def RMF (I e F a : Nat) : Prop := (e + 1) % I = 0 ∧ (e / I + 1 = 40 ∨ 300 < F + a)
/-- the log with one entry more -/
theorem lkp_up {q : Nat → Nat} {n e : Nat} (hq : ∀ i, i < n → q i < e) : (∀ k, k < e → lkp (va_up q n e) (n + 1) k = lkp q n k) ∧ lkp (va_up q n e) (n + 1) e = some n := by
  have low : ∀ m, m ≤ n → ∀ k, lkp (va_up q n e) m k = lkp q m k := by
    intro m
    induction m with
    | zero => intro _ k; rfl
    | succ m ih =>
      intro hm k
      show (if va_up q n e m = k then some m else lkp (va_up q n e) m k) = if q m = k then some m else lkp q m k
      rw [vu_ne _ _ _ (by omega), ih (by omega)]
  refine ⟨fun k hk => ?_, ?_⟩
  · show (if va_up q n e n = k then some n else lkp (va_up q n e) n k) = _
    rw [vu_at, if_neg (by omega), low n (Nat.le_refl _)]
  · show (if va_up q n e n = e then some n else lkp (va_up q n e) n e) = _
    rw [vu_at, if_pos rfl]
theorem LG_up {q : Nat → Nat} {kd vl : Nat → Int32} {n e : Nat} {k0 v0 : Int32} (hq : ∀ i, i < n → q i < e) : (∀ k, k < e → LG (va_up q n e) (va_up kd n k0) (va_up vl n v0) (n + 1) k = LG q kd vl n k) ∧ LG (va_up q n e) (va_up kd n k0) (va_up vl n v0) (n + 1) e = some (k0, v0) := by
  obtain ⟨h1, h2⟩ := lkp_up hq
  refine ⟨fun k hk => ?_, ?_⟩
  · unfold LG
    rw [h1 k hk]
    cases z : lkp q n k with
    | none => rfl
    | some i =>
      obtain ⟨a, -⟩ := lkp_some z
      simp only [Option.map_some]
      rw [vu_ne _ _ _ (by omega), vu_ne _ _ _ (by omega)]
  · unfold LG
    rw [h2]
    simp only [Option.map_some]
    rw [vu_at, vu_at]
theorem inc_up {q : Nat → Nat} {n e : Nat} (hi : inc q n) (hq : ∀ i, i < n → q i < e) : inc (va_up q n e) (n + 1) := by
  intro i j hij hj
  rw [vu_ne _ _ _ (show i ≠ n by omega)]
  by_cases c : j = n
  · subst c; rw [vu_at]; exact hq i hij
  · rw [vu_ne _ _ _ c]; exact hi i j hij (by omega)
theorem LG_e {q : Nat → Nat} {kd vl : Nat → Int32} {n e : Nat} (hq : ∀ i, i < n → q i < e) : LG q kd vl n e = none := by
  unfold LG
  rw [lkp_none (fun i hi z => by have := hq i hi; omega)]
  rfl
/-- the place of the end behind one step more -/
theorem div_hit {e I : Nat} (hI : 0 < I) (h : (e + 1) % I = 0) : (e + 1) / I = e / I + 1 ∧ (e / I + 1) * I = e + 1 := by
  have h1 := Nat.div_add_mod (e + 1) I
  have h2 := Nat.div_add_mod e I
  have h3 := Nat.mod_lt e hI
  rw [h] at h1
  have h4 : I * ((e + 1) / I) = I * (e / I) + e % I + 1 := by omega
  have h5 : (e + 1) / I = e / I + 1 := by
    have h6 : e / I * I < (e + 1) / I * I := by rw [Nat.mul_comm (e / I), Nat.mul_comm ((e + 1) / I)]; omega
    have h7 : e / I < (e + 1) / I := Nat.lt_of_mul_lt_mul_right h6
    have h8 : (e + 1) / I ≤ e / I + 1 := by
      have : (e + 1) / I ≤ (e + I) / I := Nat.div_le_div_right (by omega)
      rw [Nat.add_div_right e hI] at this
      exact this
    omega
  refine ⟨h5, ?_⟩
  rw [← h5, Nat.mul_comm]; omega
theorem div_miss {e I : Nat} (hI : 0 < I) (h : ¬ (e + 1) % I = 0) : (e + 1) / I = e / I := by
  have h1 := Nat.div_add_mod (e + 1) I
  have h2 := Nat.div_add_mod e I
  have h3 := Nat.mod_lt e hI
  have h9 := Nat.mod_lt (e + 1) hI
  have h8 : (e + 1) / I ≤ e / I + 1 := by
    have : (e + 1) / I ≤ (e + I) / I := Nat.div_le_div_right (by omega)
    rw [Nat.add_div_right e hI] at this
    exact this
  have h7 : e / I ≤ (e + 1) / I := Nat.div_le_div_right (by omega)
  rcases Nat.lt_or_ge (e / I) ((e + 1) / I) with z | z
  · exfalso
    have h5 : (e + 1) / I = e / I + 1 := by omega
    rw [h5, Nat.mul_add] at h1
    omega
  · omega
/-- the record behind a live step is a record -/
theorem GOK_step {I e n n' : Nat} {q q' : Nat → Nat} {kd vl kd' vl' f : Nat → Int32} {ev : Option (Int32 × Int32)} (hG : GOK I e e n q kd vl f) (hn' : n' ≤ 300) (hinc : inc q' n') (hq' : ∀ i, i < n' → q' i < e + 1) (hkd' : ∀ i, i < n' → kd' i = 1 ∨ kd' i = 2)
    (hL : ∀ k, k < e → LG q' kd' vl' n' k = LG q kd vl n k) (hLe : LG q' kd' vl' n' e = ev) (hR : ¬ RMF I e (FPs I (LG q kd vl n) f (e / I + 1)) (AA ev (SS I (LG q kd vl n) f e))) : GOK I (e + 1) (e + 1) n' q' kd' vl' f := by
  obtain ⟨hI, -, hK, hn, -, -, -, hFP⟩ := hG
  have hI0 : 0 < I := by omega
  have hF : FPs I (LG q' kd' vl' n') f (e / I + 1) = FPs I (LG q kd vl n) f (e / I + 1) := FPs_congr hI0 (Nat.le_refl _) hL
  by_cases c : (e + 1) % I = 0
  · obtain ⟨d1, d2⟩ := div_hit hI0 c
    have hR' : ¬ (e / I + 1 = 40 ∨ 300 < FPs I (LG q kd vl n) f (e / I + 1) + AA ev (SS I (LG q kd vl n) f e)) := fun z => hR ⟨c, z⟩
    refine ⟨hI, Nat.le_refl _, by rw [d1]; omega, hn', hinc, hq', hkd', ?_⟩
    rw [d1]
    show FPs I (LG q' kd' vl' n') f (e / I + 1) + pgs I (LG q' kd' vl' n') f (e / I + 1) ≤ 300
    have hp : pgs I (LG q' kd' vl' n') f (e / I + 1) = AA ev (SS I (LG q kd vl n) f e) := by
      unfold pgs AA
      refine cnt_congr 32 (fun k _ => ?_)
      unfold flg
      rw [if_neg (Nat.succ_ne_zero _), d2]
      show act (LG q' kd' vl' n' e) (SS I (LG q' kd' vl' n') f e) 9 k = _
      rw [hLe, SS_congr hL]
    rw [hF, hp]
    omega
  · have d1 := div_miss hI0 c
    exact ⟨hI, Nat.le_refl _, by rw [d1]; exact hK, hn', hinc, hq', hkd', by rw [d1, hF]; exact hFP⟩
end PU
