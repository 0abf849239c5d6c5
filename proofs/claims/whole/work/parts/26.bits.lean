/-! THE PURE SIDE, 7: Integer.bitCount counts the bits -/
section PU
def uN32 (x : Int32) : Nat := x.toBitVec.toNat
theorem uN32_lt (x : Int32) : uN32 x < 4294967296 := x.toBitVec.isLt
theorem uN32_and (x y : Int32) : uN32 (x &&& y) = uN32 x &&& uN32 y := BitVec.toNat_and _ _
theorem uN32_add (x y : Int32) : uN32 (x + y) = (uN32 x + uN32 y) % 4294967296 := BitVec.toNat_add _ _
theorem uN32_sub (x y : Int32) : uN32 (x - y) = (4294967296 - uN32 y + uN32 x) % 4294967296 := BitVec.toNat_sub _ _
theorem uN32_ush (x s : Int32) (k : Nat) (hs : ((s.toUInt32 &&& Int32.toUInt32 31).toBitVec % 32).toNat = k) : uN32 (x.toUInt32 >>> (s.toUInt32 &&& Int32.toUInt32 31)).toInt32 = uN32 x / 2 ^ k := pk_ushr x s k hs
theorem uN32_nI (x : Int32) : x = nI (uN32 x) := by
  apply Int32.toBitVec_inj.mp
  show x.toBitVec = (Int32.ofNat x.toBitVec.toNat).toBitVec
  simp [Int32.ofNat]
theorem land8 (x m : Nat) : x &&& m = ((x % 256) &&& (m % 256)) + 256 * ((x / 256) &&& (m / 256)) := by
  have h1 : (x &&& m) % 2 ^ 8 = (x % 2 ^ 8) &&& (m % 2 ^ 8) := Nat.and_mod_two_pow
  have h2 : (x &&& m) / 2 ^ 8 = (x / 2 ^ 8) &&& (m / 2 ^ 8) := Nat.and_div_two_pow
  have h3 := Nat.mod_add_div (x &&& m) 256
  rw [show (2 : Nat) ^ 8 = 256 from rfl] at h1 h2
  rw [← h1, ← h2]
  exact h3.symm
theorem land32 (x : Nat) (a : Nat) (ha : a < 256) : x &&& (a + 256 * (a + 256 * (a + 256 * a))) = ((x % 256) &&& a) + 256 * (((x / 256 % 256) &&& a) + 256 * (((x / 65536 % 256) &&& a) + 256 * ((x / 16777216) &&& a))) := by
  rw [land8 x, show (a + 256 * (a + 256 * (a + 256 * a))) % 256 = a by omega, show (a + 256 * (a + 256 * (a + 256 * a))) / 256 = a + 256 * (a + 256 * a) by omega]
  rw [land8 (x / 256), show (a + 256 * (a + 256 * a)) % 256 = a by omega, show (a + 256 * (a + 256 * a)) / 256 = a + 256 * a by omega]
  rw [land8 (x / 256 / 256), show (a + 256 * a) % 256 = a by omega, show (a + 256 * a) / 256 = a by omega]
  rw [show x / 256 / 256 = x / 65536 by omega, show x / 65536 / 256 = x / 16777216 by omega]
theorem m85 : ∀ a, a < 128 → ∀ t, t < 2 → (a + 128 * t) &&& 85 = a &&& 85 := by decide +kernel
theorem m51 : ∀ a, a < 64 → ∀ t, t < 4 → (a + 64 * t) &&& 51 = a &&& 51 := by decide +kernel
def q1 (b : Nat) : Nat := b - ((b / 2) &&& 85)
def q2 (b : Nat) : Nat := (q1 b &&& 51) + ((q1 b / 4) &&& 51)
def q3 (b : Nat) : Nat := (q2 b + q2 b / 16) % 16
theorem q_ok : ∀ b, b < 256 → ((b / 2) &&& 85) ≤ b ∧ q1 b < 256 ∧ q2 b < 69 ∧ q3 b = b % 2 + b / 2 % 2 + b / 4 % 2 + b / 8 % 2 + b / 16 % 2 + b / 32 % 2 + b / 64 % 2 + b / 128 % 2 := by decide +kernel
theorem q_le : ∀ b, b < 256 → ((b / 2) &&& 85) ≤ b ∧ q1 b < 256 ∧ q2 b < 69 ∧ q3 b ≤ 8 ∧ q2 b % 16 ≤ 4 := by decide +kernel
theorem by4 {N b0 b1 b2 b3 : Nat} (h0 : b0 < 256) (h1 : b1 < 256) (h2 : b2 < 256) (h3 : b3 < 256) (hN : N = b0 + 256 * (b1 + 256 * (b2 + 256 * b3))) : N % 256 = b0 ∧ N / 256 % 256 = b1 ∧ N / 65536 % 256 = b2 ∧ N / 16777216 = b3 := by omega
theorem by4h {N b0 b1 b2 b3 : Nat} (h0 : b0 < 256) (h1 : b1 < 256) (h2 : b2 < 256) (h3 : b3 < 256) (hN : N = b0 + 256 * (b1 + 256 * (b2 + 256 * b3))) : N / 2 % 256 = b0 / 2 + 128 * (b1 % 2) ∧ N / 2 / 256 % 256 = b1 / 2 + 128 * (b2 % 2) ∧ N / 2 / 65536 % 256 = b2 / 2 + 128 * (b3 % 2) ∧ N / 2 / 16777216 = b3 / 2 := by
  refine ⟨by omega, by omega, by omega, by omega⟩
theorem by4q {N b0 b1 b2 b3 : Nat} (h0 : b0 < 256) (h1 : b1 < 256) (h2 : b2 < 256) (h3 : b3 < 256) (hN : N = b0 + 256 * (b1 + 256 * (b2 + 256 * b3))) : N / 4 % 256 = b0 / 4 + 64 * (b1 % 4) ∧ N / 4 / 256 % 256 = b1 / 4 + 64 * (b2 % 4) ∧ N / 4 / 65536 % 256 = b2 / 4 + 64 * (b3 % 4) ∧ N / 4 / 16777216 = b3 / 4 := by
  refine ⟨by omega, by omega, by omega, by omega⟩
theorem pg1 {N b0 b1 b2 b3 y0 y1 y2 y3 : Nat} (h0 : b0 < 256) (h1 : b1 < 256) (h2 : b2 < 256) (h3 : b3 < 256) (hN : N = b0 + 256 * (b1 + 256 * (b2 + 256 * b3))) (k0 : y0 ≤ b0) (k1 : y1 ≤ b1) (k2 : y2 ≤ b2) (k3 : y3 ≤ b3) : (4294967296 - (y0 + 256 * (y1 + 256 * (y2 + 256 * y3))) + N) % 4294967296 = (b0 - y0) + 256 * ((b1 - y1) + 256 * ((b2 - y2) + 256 * (b3 - y3))) := by omega
theorem pg2 {u0 u1 u2 u3 v0 v1 v2 v3 : Nat} (h0 : u0 + v0 < 69) (h1 : u1 + v1 < 69) (h2 : u2 + v2 < 69) (h3 : u3 + v3 < 69) : ((u0 + 256 * (u1 + 256 * (u2 + 256 * u3))) + (v0 + 256 * (v1 + 256 * (v2 + 256 * v3)))) % 4294967296 = (u0 + v0) + 256 * ((u1 + v1) + 256 * ((u2 + v2) + 256 * (u3 + v3))) := by omega
theorem pg3 {x y s0 s1 s2 s3 : Nat} (h0 : s0 < 69) (h1 : s1 < 69) (h2 : s2 < 69) (h3 : s3 < 69) (k1 : s1 % 16 ≤ 4) (k2 : s2 % 16 ≤ 4) (k3 : s3 % 16 ≤ 4) (hx : x = s0 + 256 * (s1 + 256 * (s2 + 256 * s3))) (hy : y = (x + x / 16) % 4294967296) : y % 256 % 16 = (s0 + s0 / 16) % 16 ∧ y / 256 % 256 % 16 = (s1 + s1 / 16) % 16 ∧ y / 65536 % 256 % 16 = (s2 + s2 / 16) % 16 ∧ y / 16777216 % 16 = (s3 + s3 / 16) % 16 := by
  have e : y = (s0 + s0 / 16 + 16 * (s1 % 16)) + 256 * ((s1 + s1 / 16 + 16 * (s2 % 16)) + 256 * ((s2 + s2 / 16 + 16 * (s3 % 16)) + 256 * (s3 + s3 / 16))) := by omega
  obtain ⟨a, b, c, d⟩ := by4 (b0 := s0 + s0 / 16 + 16 * (s1 % 16)) (b1 := s1 + s1 / 16 + 16 * (s2 % 16)) (b2 := s2 + s2 / 16 + 16 * (s3 % 16)) (b3 := s3 + s3 / 16) (by omega) (by omega) (by omega) (by omega) e
  rw [a, b, c, d]
  clear a b c d e hx hy
  refine ⟨by omega, by omega, by omega, rfl⟩
theorem pg4 {c0 c1 c2 c3 x4 x5 : Nat} (h0 : c0 ≤ 8) (h1 : c1 ≤ 8) (h2 : c2 ≤ 8) (h3 : c3 ≤ 8) (e4 : x4 = ((c0 + 256 * (c1 + 256 * (c2 + 256 * c3))) + (c0 + 256 * (c1 + 256 * (c2 + 256 * c3))) / 256) % 4294967296) (e5 : x5 = (x4 + x4 / 65536) % 4294967296) : x5 % 64 = c0 + c1 + c2 + c3 := by
  have f4 : x4 = (c0 + c1) + 256 * ((c1 + c2) + 256 * ((c2 + c3) + 256 * c3)) := by omega
  have f5 : x4 / 65536 = (c2 + c3) + 256 * c3 := by omega
  rw [f5, f4] at e5
  omega
theorem pop32 {N b0 b1 b2 b3 : Nat} (h0 : b0 < 256) (h1 : b1 < 256) (h2 : b2 < 256) (h3 : b3 < 256) (hN : N = b0 + 256 * (b1 + 256 * (b2 + 256 * b3))) {x1 x2 x3 x4 x5 x6 : Nat}
    (e1 : x1 = (4294967296 - ((N / 2) &&& 1431655765) + N) % 4294967296) (e2 : x2 = ((x1 &&& 858993459) + ((x1 / 4) &&& 858993459)) % 4294967296) (e3 : x3 = ((x2 + x2 / 16) % 4294967296) &&& 252645135) (e4 : x4 = (x3 + x3 / 256) % 4294967296) (e5 : x5 = (x4 + x4 / 65536) % 4294967296) (e6 : x6 = x5 &&& 63) : x6 = q3 b0 + q3 b1 + q3 b2 + q3 b3 := by
  obtain ⟨a0, a1, a2, a3, a4⟩ := q_le b0 h0
  obtain ⟨b0', b1', b2', b3', b4'⟩ := q_le b1 h1
  obtain ⟨c0, c1, c2, c3, c4⟩ := q_le b2 h2
  obtain ⟨d0, d1, d2, d3, d4⟩ := q_le b3 h3
  have f1 : (N / 2) &&& 1431655765 = ((b0 / 2) &&& 85) + 256 * (((b1 / 2) &&& 85) + 256 * (((b2 / 2) &&& 85) + 256 * ((b3 / 2) &&& 85))) := by
    obtain ⟨z0, z1, z2, z3⟩ := by4h h0 h1 h2 h3 hN
    rw [show (1431655765 : Nat) = 85 + 256 * (85 + 256 * (85 + 256 * 85)) from rfl, land32 _ 85 (by decide), z0, z1, z2, z3]
    rw [m85 _ (by omega) _ (by omega), m85 _ (by omega) _ (by omega), m85 _ (by omega) _ (by omega)]
  have g1 : x1 = q1 b0 + 256 * (q1 b1 + 256 * (q1 b2 + 256 * q1 b3)) := by
    rw [e1, f1]
    exact pg1 h0 h1 h2 h3 hN a0 b0' c0 d0
  have f2 : x1 &&& 858993459 = (q1 b0 &&& 51) + 256 * ((q1 b1 &&& 51) + 256 * ((q1 b2 &&& 51) + 256 * (q1 b3 &&& 51))) := by
    obtain ⟨z0, z1, z2, z3⟩ := by4 a1 b1' c1 d1 g1
    rw [show (858993459 : Nat) = 51 + 256 * (51 + 256 * (51 + 256 * 51)) from rfl, land32 _ 51 (by decide), z0, z1, z2, z3]
  have f3 : (x1 / 4) &&& 858993459 = ((q1 b0 / 4) &&& 51) + 256 * (((q1 b1 / 4) &&& 51) + 256 * (((q1 b2 / 4) &&& 51) + 256 * ((q1 b3 / 4) &&& 51))) := by
    obtain ⟨z0, z1, z2, z3⟩ := by4q a1 b1' c1 d1 g1
    rw [show (858993459 : Nat) = 51 + 256 * (51 + 256 * (51 + 256 * 51)) from rfl, land32 _ 51 (by decide), z0, z1, z2, z3]
    rw [m51 _ (by omega) _ (by omega), m51 _ (by omega) _ (by omega), m51 _ (by omega) _ (by omega)]
  have g2 : x2 = q2 b0 + 256 * (q2 b1 + 256 * (q2 b2 + 256 * q2 b3)) := by
    rw [e2, f2, f3]
    exact pg2 a2 b2' c2 d2
  have g3 : x3 = q3 b0 + 256 * (q3 b1 + 256 * (q3 b2 + 256 * q3 b3)) := by
    rw [e3, show (252645135 : Nat) = 15 + 256 * (15 + 256 * (15 + 256 * 15)) from rfl, land32 _ 15 (by decide)]
    have w : ∀ z : Nat, z &&& 15 = z % 16 := fun z => Nat.and_two_pow_sub_one_eq_mod z 4
    obtain ⟨z0, z1, z2, z3⟩ := pg3 a2 b2' c2 d2 b4' c4 d4 g2 rfl
    rw [w, w, w, w, z0, z1, z2, z3]
    rfl
  rw [g3] at e4
  rw [e6, show x5 &&& 63 = x5 % 64 from Nat.and_two_pow_sub_one_eq_mod x5 6]
  exact pg4 a3 b3' c3 d3 e4 e5
theorem bit_if (w : Int32) (k : Nat) (hk : k < 32) : (if bitv w k = 0 then 0 else 1) = uN32 w / 2 ^ k % 2 := by
  unfold bitv
  have h : w.toBitVec.getLsbD k = (uN32 w).testBit k := rfl
  rw [h, Nat.testBit_eq_decide_div_mod_eq]
  have := Nat.mod_two_eq_zero_or_one (uN32 w / 2 ^ k)
  rcases this with e | e
  · simp [e]
  · simp [e, hk]
theorem bz0 (N : Nat) : N / 2 ^ 0 % 2 = N % 256 % 2 := by
  simp only [Nat.reducePow] <;> omega
theorem bz1 (N : Nat) : N / 2 ^ 1 % 2 = N % 256 / 2 % 2 := by
  simp only [Nat.reducePow] <;> omega
theorem bz2 (N : Nat) : N / 2 ^ 2 % 2 = N % 256 / 4 % 2 := by
  simp only [Nat.reducePow] <;> omega
theorem bz3 (N : Nat) : N / 2 ^ 3 % 2 = N % 256 / 8 % 2 := by
  simp only [Nat.reducePow] <;> omega
theorem bz4 (N : Nat) : N / 2 ^ 4 % 2 = N % 256 / 16 % 2 := by
  simp only [Nat.reducePow] <;> omega
theorem bz5 (N : Nat) : N / 2 ^ 5 % 2 = N % 256 / 32 % 2 := by
  simp only [Nat.reducePow] <;> omega
theorem bz6 (N : Nat) : N / 2 ^ 6 % 2 = N % 256 / 64 % 2 := by
  simp only [Nat.reducePow] <;> omega
theorem bz7 (N : Nat) : N / 2 ^ 7 % 2 = N % 256 / 128 % 2 := by
  simp only [Nat.reducePow] <;> omega
theorem bz8 (N : Nat) : N / 2 ^ 8 % 2 = N / 256 % 256 % 2 := by
  simp only [Nat.reducePow] <;> omega
theorem bz9 (N : Nat) : N / 2 ^ 9 % 2 = N / 256 % 256 / 2 % 2 := by
  simp only [Nat.reducePow] <;> omega
theorem bz10 (N : Nat) : N / 2 ^ 10 % 2 = N / 256 % 256 / 4 % 2 := by
  simp only [Nat.reducePow] <;> omega
theorem bz11 (N : Nat) : N / 2 ^ 11 % 2 = N / 256 % 256 / 8 % 2 := by
  simp only [Nat.reducePow] <;> omega
theorem bz12 (N : Nat) : N / 2 ^ 12 % 2 = N / 256 % 256 / 16 % 2 := by
  simp only [Nat.reducePow] <;> omega
theorem bz13 (N : Nat) : N / 2 ^ 13 % 2 = N / 256 % 256 / 32 % 2 := by
  simp only [Nat.reducePow] <;> omega
theorem bz14 (N : Nat) : N / 2 ^ 14 % 2 = N / 256 % 256 / 64 % 2 := by
  simp only [Nat.reducePow] <;> omega
theorem bz15 (N : Nat) : N / 2 ^ 15 % 2 = N / 256 % 256 / 128 % 2 := by
  simp only [Nat.reducePow] <;> omega
theorem bz16 (N : Nat) : N / 2 ^ 16 % 2 = N / 65536 % 256 % 2 := by
  simp only [Nat.reducePow] <;> omega
theorem bz17 (N : Nat) : N / 2 ^ 17 % 2 = N / 65536 % 256 / 2 % 2 := by
  simp only [Nat.reducePow] <;> omega
theorem bz18 (N : Nat) : N / 2 ^ 18 % 2 = N / 65536 % 256 / 4 % 2 := by
  simp only [Nat.reducePow] <;> omega
theorem bz19 (N : Nat) : N / 2 ^ 19 % 2 = N / 65536 % 256 / 8 % 2 := by
  simp only [Nat.reducePow] <;> omega
theorem bz20 (N : Nat) : N / 2 ^ 20 % 2 = N / 65536 % 256 / 16 % 2 := by
  simp only [Nat.reducePow] <;> omega
theorem bz21 (N : Nat) : N / 2 ^ 21 % 2 = N / 65536 % 256 / 32 % 2 := by
  simp only [Nat.reducePow] <;> omega
theorem bz22 (N : Nat) : N / 2 ^ 22 % 2 = N / 65536 % 256 / 64 % 2 := by
  simp only [Nat.reducePow] <;> omega
theorem bz23 (N : Nat) : N / 2 ^ 23 % 2 = N / 65536 % 256 / 128 % 2 := by
  simp only [Nat.reducePow] <;> omega
theorem bz24 (N : Nat) : N / 2 ^ 24 % 2 = N / 16777216 % 2 := by
  simp only [Nat.reducePow] <;> omega
theorem bz25 (N : Nat) : N / 2 ^ 25 % 2 = N / 16777216 / 2 % 2 := by
  simp only [Nat.reducePow] <;> omega
theorem bz26 (N : Nat) : N / 2 ^ 26 % 2 = N / 16777216 / 4 % 2 := by
  simp only [Nat.reducePow] <;> omega
theorem bz27 (N : Nat) : N / 2 ^ 27 % 2 = N / 16777216 / 8 % 2 := by
  simp only [Nat.reducePow] <;> omega
theorem bz28 (N : Nat) : N / 2 ^ 28 % 2 = N / 16777216 / 16 % 2 := by
  simp only [Nat.reducePow] <;> omega
theorem bz29 (N : Nat) : N / 2 ^ 29 % 2 = N / 16777216 / 32 % 2 := by
  simp only [Nat.reducePow] <;> omega
theorem bz30 (N : Nat) : N / 2 ^ 30 % 2 = N / 16777216 / 64 % 2 := by
  simp only [Nat.reducePow] <;> omega
theorem bz31 (N : Nat) : N / 2 ^ 31 % 2 = N / 16777216 / 128 % 2 := by
  simp only [Nat.reducePow] <;> omega
theorem cnt_bytes (w : Int32) : cnt (bitv w) 32 = q3 (uN32 w % 256) + q3 (uN32 w / 256 % 256) + q3 (uN32 w / 65536 % 256) + q3 (uN32 w / 16777216) := by
  have hN := uN32_lt w
  rw [(q_ok (uN32 w % 256) (by omega)).2.2.2, (q_ok (uN32 w / 256 % 256) (by omega)).2.2.2, (q_ok (uN32 w / 65536 % 256) (by omega)).2.2.2, (q_ok (uN32 w / 16777216) (by omega)).2.2.2]
  simp only [cnt]
  rw [bit_if w 0 (by decide), bit_if w 1 (by decide), bit_if w 2 (by decide), bit_if w 3 (by decide), bit_if w 4 (by decide), bit_if w 5 (by decide), bit_if w 6 (by decide), bit_if w 7 (by decide), bit_if w 8 (by decide), bit_if w 9 (by decide), bit_if w 10 (by decide), bit_if w 11 (by decide), bit_if w 12 (by decide), bit_if w 13 (by decide), bit_if w 14 (by decide), bit_if w 15 (by decide), bit_if w 16 (by decide), bit_if w 17 (by decide), bit_if w 18 (by decide), bit_if w 19 (by decide), bit_if w 20 (by decide), bit_if w 21 (by decide), bit_if w 22 (by decide), bit_if w 23 (by decide), bit_if w 24 (by decide), bit_if w 25 (by decide), bit_if w 26 (by decide), bit_if w 27 (by decide), bit_if w 28 (by decide), bit_if w 29 (by decide), bit_if w 30 (by decide), bit_if w 31 (by decide)]
  generalize uN32 w = N
  rw [bz0, bz1, bz2, bz3, bz4, bz5, bz6, bz7, bz8, bz9, bz10, bz11, bz12, bz13, bz14, bz15, bz16, bz17, bz18, bz19, bz20, bz21, bz22, bz23, bz24, bz25, bz26, bz27, bz28, bz29, bz30, bz31]
  simp only [Nat.add_assoc, Nat.zero_add]
theorem bitCount_ok (w : Int32) : f_J6_bitCount_0f7a4 w = nI (cnt (bitv w) 32) := by
  have hN := uN32_lt w
  rw [cnt_bytes]
  unfold f_J6_bitCount_0f7a4
  simp only [gl]
  generalize hy1 : w - (((w.toUInt32 >>> ((1 : Int32).toUInt32 &&& Int32.toUInt32 31)).toInt32) &&& 1431655765) = y1
  generalize hy2 : (y1 &&& 858993459) + (((y1.toUInt32 >>> ((2 : Int32).toUInt32 &&& Int32.toUInt32 31)).toInt32) &&& 858993459) = y2
  generalize hy3 : (y2 + ((y2.toUInt32 >>> ((4 : Int32).toUInt32 &&& Int32.toUInt32 31)).toInt32)) &&& 252645135 = y3
  generalize hy4 : y3 + ((y3.toUInt32 >>> ((8 : Int32).toUInt32 &&& Int32.toUInt32 31)).toInt32) = y4
  generalize hy5 : y4 + ((y4.toUInt32 >>> ((16 : Int32).toUInt32 &&& Int32.toUInt32 31)).toInt32) = y5
  have e1 : uN32 y1 = (4294967296 - ((uN32 w / 2) &&& 1431655765) + uN32 w) % 4294967296 := by
    rw [← hy1, uN32_sub, uN32_and, uN32_ush _ 1 1 (by decide), show uN32 1431655765 = 1431655765 from by decide +kernel]
  have e2 : uN32 y2 = ((uN32 y1 &&& 858993459) + ((uN32 y1 / 4) &&& 858993459)) % 4294967296 := by
    rw [← hy2, uN32_add, uN32_and, uN32_and, uN32_ush _ 2 2 (by decide), show uN32 858993459 = 858993459 from by decide +kernel]
  have e3 : uN32 y3 = ((uN32 y2 + uN32 y2 / 16) % 4294967296) &&& 252645135 := by
    rw [← hy3, uN32_and, uN32_add, uN32_ush _ 4 4 (by decide), show uN32 252645135 = 252645135 from by decide +kernel]
  have e4 : uN32 y4 = (uN32 y3 + uN32 y3 / 256) % 4294967296 := by
    rw [← hy4, uN32_add, uN32_ush _ 8 8 (by decide)]
  have e5 : uN32 y5 = (uN32 y4 + uN32 y4 / 65536) % 4294967296 := by
    rw [← hy5, uN32_add, uN32_ush _ 16 16 (by decide)]
  have e6 : uN32 (y5 &&& 63) = uN32 y5 &&& 63 := by
    rw [uN32_and, show uN32 63 = 63 from by decide +kernel]
  have hp := pop32 (N := uN32 w) (b0 := uN32 w % 256) (b1 := uN32 w / 256 % 256) (b2 := uN32 w / 65536 % 256) (b3 := uN32 w / 16777216) (by omega) (by omega) (by omega) (by omega) (by omega) e1 e2 e3 e4 e5 e6
  rw [← hp]
  exact uN32_nI _
end PU
