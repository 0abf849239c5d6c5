/-! THE TWO WORLDS. Class: 0 the box, 1 its machine, 2 registers, 3 memory, 4 keptOuts, 5 inputs, 6 their values, 7 log, 8 positions, 9 kinds, 10 values, 11 snapshots, 12 firstMemory, 13 pageWords, 14 row, 15 + k snapshot k, 55 + k its registers. Reference: 0 itself, 1 first, 2 memory, 3 registers, 4 kept, 5 logAt, 6 logKind, 7 logInput, 8 pagesOf, 9 written, 10 inputs -/
section WORLDS
def kcf (cI cS : ClassId) (a : Nat → Nat) (i : Nat) (r : Nat → Int32) : va_E := match i with
  | 0 => .inr (5, [.int (r 0), .ref (a 1), .ref (a 5), .ref (a 7), .ref (a 11), .int (r 5), .int (r 6), .int (r 7), .int (r 8)])
  | 1 => .inr (2, [.ref (a 2), .ref (a 3), .ref (a 4), .int (r 3), .int (r 4), .int (r 5), .int (r 6), .int (r 7)])
  | 2 => .inl (cI, 8, .inl r)
  | 3 => .inl (cI, 512, .inl r)
  | 4 => .inl (cI, 64, .inl r)
  | 5 => .inr (0, [.ref (a 6), .int (r 1), .int (r 2)])
  | 6 => .inl (cI, 100, .inl r)
  | 7 => .inr (1, [.ref (a 8), .ref (a 9), .ref (a 10), .int (r 3)])
  | 8 => .inl (cI, 300, .inl r)
  | 9 => .inl (cI, 300, .inl r)
  | 10 => .inl (cI, 300, .inl r)
  | 11 => .inr (4, [.ref (a 12), .ref (a 13), .ref (a 14), .int (r 3), .int (r 4)])
  | 12 => .inl (cI, 512, .inl r)
  | 13 => .inl (cI, 4800, .inl r)
  | 14 => .inl (cS, 40, .inr (.inr (.inr (.inr (fun k => some (a (k + 15)))))))
  | k + 15 => if k < 40 then .inr (3, [.ref (a (k + 55)), .int (r 1), .int (r 2), .int (r 3), .int (r 4), .int (r 5), .int (r 6)]) else .inl (cI, 8, .inl r)
theorem kcf_hi {cI cS : ClassId} {a : Nat → Nat} {r : Nat → Int32} (k : Nat) : kcf cI cS a (k + 15) r = if k < 40 then .inr (3, [.ref (a (k + 55)), .int (r 1), .int (r 2), .int (r 3), .int (r 4), .int (r 5), .int (r 6)]) else .inl (cI, 8, .inl r) := rfl
theorem kcf_snap {cI cS : ClassId} {a : Nat → Nat} {k : Nat} {r : Nat → Int32} (hk : k < 40) : kcf cI cS a (k + 15) r = .inr (3, [.ref (a (k + 55)), .int (r 1), .int (r 2), .int (r 3), .int (r 4), .int (r 5), .int (r 6)]) := if_pos hk
theorem kcf_regs {cI cS : ClassId} {a : Nat → Nat} {k : Nat} (r : Nat → Int32) : kcf cI cS a (k + 55) r = .inl (cI, 8, .inl r) := by
  have e := kcf_hi (cI := cI) (cS := cS) (a := a) (r := r) (k + 40)
  rw [if_neg (by omega)] at e
  exact e
theorem kid_s {k : Nat} (hk : k < 40) : k + 15 < 95 := by omega
theorem kid_r {k : Nat} (hk : k < 40) : k + 55 < 95 := by omega
def kty (cI cS : ClassId) : xT := ([(cI, .int), (cS, .object "RewindBox$Snapshot")], [(RX2, 58, yX5_placeOf, "RewindBox")])
def mcf (cI cZ : ClassId) (a : Nat → Nat) (i : Nat) (r : Nat → Int32) : va_E := match i with
  | 0 => .inr (6, [.int (r 0), .ref (a 1), .ref (a 2), .ref (a 3), .int (r 4), .int (r 5), .int (r 6), .ref (a 4), .int (r 8), .int (r 9), .int (r 10), .int (r 11), .ref (a 5), .ref (a 6), .ref (a 7), .int (r 15), .int (r 16), .int (r 17), .ref (a 8), .ref (a 9), .ref (a 10), .int (r 21), .int (r 22)])
  | 1 => .inl (cI, 512, .inl r)
  | 2 => .inl (cI, 512, .inl r)
  | 3 => .inl (cI, 8, .inl r)
  | 4 => .inl (cI, 64, .inl r)
  | 5 => .inl (cI, 300, .inl r)
  | 6 => .inl (cI, 300, .inl r)
  | 7 => .inl (cI, 300, .inl r)
  | 8 => .inl (cI, 40, .inl r)
  | 9 => .inl (cZ, 32, .inl r)
  | _ => .inl (cI, 100, .inl r)
def mty (cI cZ : ClassId) : xT := ([(cI, .int), (cZ, .boolean)], [])
end WORLDS
