section
-- ===== PART A: goes FIRST, ahead of the names: the tables' words, and 'selects' of the private methods out of them =====
/-- a private method of a class that the tables say can be made, by its rows of tables_1 -/
def lw_okq (q : MethodName × Nat) : Prop := (q.1.cls ≠ "java/lang/invoke/MethodHandle" ∧ q.1.cls ≠ "java/lang/invoke/VarHandle") ∧ Cond.instantiable q.1.cls q.2 ∈ tables_1 ∧ Cond.privateMethod q.1 ∈ tables_1 ∧ Cond.instanceMethod q.1 ∈ tables_1
theorem lw_p0 : lw_okq (⟨"RewindBox", "tryStep", "()Z"⟩, 9) := ⟨⟨by decide +kernel, by decide +kernel⟩, List.mem_of_getElem? (i := 13) (by decide +kernel), List.mem_of_getElem? (i := 258) (by decide +kernel), List.mem_of_getElem? (i := 259) (by decide +kernel)⟩
theorem lw_p1 : lw_okq (⟨"RewindBox", "stepByLog", "()V"⟩, 9) := ⟨⟨by decide +kernel, by decide +kernel⟩, List.mem_of_getElem? (i := 13) (by decide +kernel), List.mem_of_getElem? (i := 262) (by decide +kernel), List.mem_of_getElem? (i := 263) (by decide +kernel)⟩
theorem lw_p2 : lw_okq (⟨"RewindBox", "advance", "(II)V"⟩, 9) := ⟨⟨by decide +kernel, by decide +kernel⟩, List.mem_of_getElem? (i := 13) (by decide +kernel), List.mem_of_getElem? (i := 270) (by decide +kernel), List.mem_of_getElem? (i := 271) (by decide +kernel)⟩
theorem lw_p3 : lw_okq (⟨"RewindBox$Machine", "target", "(I)I"⟩, 8) := ⟨⟨by decide +kernel, by decide +kernel⟩, List.mem_of_getElem? (i := 27) (by decide +kernel), List.mem_of_getElem? (i := 300) (by decide +kernel), List.mem_of_getElem? (i := 301) (by decide +kernel)⟩
theorem lw_p4 : lw_okq (⟨"RewindBox$Machine", "store", "(II)V"⟩, 8) := ⟨⟨by decide +kernel, by decide +kernel⟩, List.mem_of_getElem? (i := 27) (by decide +kernel), List.mem_of_getElem? (i := 307) (by decide +kernel), List.mem_of_getElem? (i := 308) (by decide +kernel)⟩
theorem lw_p5 : lw_okq (⟨"RewindBox$Machine", "putOut", "(I)V"⟩, 8) := ⟨⟨by decide +kernel, by decide +kernel⟩, List.mem_of_getElem? (i := 27) (by decide +kernel), List.mem_of_getElem? (i := 314) (by decide +kernel), List.mem_of_getElem? (i := 315) (by decide +kernel)⟩
theorem lw_p6 : lw_okq (⟨"RewindBox$Machine", "jump", "(III)V"⟩, 8) := ⟨⟨by decide +kernel, by decide +kernel⟩, List.mem_of_getElem? (i := 27) (by decide +kernel), List.mem_of_getElem? (i := 318) (by decide +kernel), List.mem_of_getElem? (i := 319) (by decide +kernel)⟩
theorem lw_p7 : lw_okq (⟨"RewindBox", "nextLiveKind", "()I"⟩, 9) := ⟨⟨by decide +kernel, by decide +kernel⟩, List.mem_of_getElem? (i := 13) (by decide +kernel), List.mem_of_getElem? (i := 323) (by decide +kernel), List.mem_of_getElem? (i := 324) (by decide +kernel)⟩
theorem lw_p8 : lw_okq (⟨"RewindBox", "isFull", "(I)Z"⟩, 9) := ⟨⟨by decide +kernel, by decide +kernel⟩, List.mem_of_getElem? (i := 13) (by decide +kernel), List.mem_of_getElem? (i := 331) (by decide +kernel), List.mem_of_getElem? (i := 332) (by decide +kernel)⟩
theorem lw_p9 : lw_okq (⟨"RewindBox", "stepLive", "(I)V"⟩, 9) := ⟨⟨by decide +kernel, by decide +kernel⟩, List.mem_of_getElem? (i := 13) (by decide +kernel), List.mem_of_getElem? (i := 350) (by decide +kernel), List.mem_of_getElem? (i := 351) (by decide +kernel)⟩
theorem lw_p10 : lw_okq (⟨"RewindBox", "isOnRecord", "(I)Z"⟩, 9) := ⟨⟨by decide +kernel, by decide +kernel⟩, List.mem_of_getElem? (i := 13) (by decide +kernel), List.mem_of_getElem? (i := 366) (by decide +kernel), List.mem_of_getElem? (i := 367) (by decide +kernel)⟩
theorem lw_p11 : lw_okq (⟨"RewindBox$Snapshots", "layPages", "(LRewindBox$Snapshot;[I)V"⟩, 5) := ⟨⟨by decide +kernel, by decide +kernel⟩, List.mem_of_getElem? (i := 114) (by decide +kernel), List.mem_of_getElem? (i := 374) (by decide +kernel), List.mem_of_getElem? (i := 375) (by decide +kernel)⟩
theorem lw_p12 : lw_okq (⟨"RewindBoxModel", "rewind", "()V"⟩, 23) := ⟨⟨by decide +kernel, by decide +kernel⟩, List.mem_of_getElem? (i := 431) (by decide +kernel), List.mem_of_getElem? (i := 519) (by decide +kernel), List.mem_of_getElem? (i := 520) (by decide +kernel)⟩
theorem lw_p13 : lw_okq (⟨"RewindBoxModel", "again", "()V"⟩, 23) := ⟨⟨by decide +kernel, by decide +kernel⟩, List.mem_of_getElem? (i := 431) (by decide +kernel), List.mem_of_getElem? (i := 539) (by decide +kernel), List.mem_of_getElem? (i := 540) (by decide +kernel)⟩
theorem lw_p14 : lw_okq (⟨"RewindBoxModel", "interrupt", "()V"⟩, 23) := ⟨⟨by decide +kernel, by decide +kernel⟩, List.mem_of_getElem? (i := 431) (by decide +kernel), List.mem_of_getElem? (i := 543) (by decide +kernel), List.mem_of_getElem? (i := 544) (by decide +kernel)⟩
theorem lw_p15 : lw_okq (⟨"RewindBoxModel", "instruct", "(II)V"⟩, 23) := ⟨⟨by decide +kernel, by decide +kernel⟩, List.mem_of_getElem? (i := 431) (by decide +kernel), List.mem_of_getElem? (i := 547) (by decide +kernel), List.mem_of_getElem? (i := 548) (by decide +kernel)⟩
def lw_privs_1 : List (MethodName × Nat) := [(⟨"RewindBox", "tryStep", "()Z"⟩, 9), (⟨"RewindBox", "stepByLog", "()V"⟩, 9), (⟨"RewindBox", "advance", "(II)V"⟩, 9), (⟨"RewindBox$Machine", "target", "(I)I"⟩, 8), (⟨"RewindBox$Machine", "store", "(II)V"⟩, 8), (⟨"RewindBox$Machine", "putOut", "(I)V"⟩, 8), (⟨"RewindBox$Machine", "jump", "(III)V"⟩, 8), (⟨"RewindBox", "nextLiveKind", "()I"⟩, 9), (⟨"RewindBox", "isFull", "(I)Z"⟩, 9), (⟨"RewindBox", "stepLive", "(I)V"⟩, 9), (⟨"RewindBox", "isOnRecord", "(I)Z"⟩, 9), (⟨"RewindBox$Snapshots", "layPages", "(LRewindBox$Snapshot;[I)V"⟩, 5), (⟨"RewindBoxModel", "rewind", "()V"⟩, 23), (⟨"RewindBoxModel", "again", "()V"⟩, 23), (⟨"RewindBoxModel", "interrupt", "()V"⟩, 23), (⟨"RewindBoxModel", "instruct", "(II)V"⟩, 23)]
theorem lw_r1 : ∀ q ∈ lw_privs_1, lw_okq q := List.forall_mem_cons.mpr ⟨lw_p0, List.forall_mem_cons.mpr ⟨lw_p1, List.forall_mem_cons.mpr ⟨lw_p2, List.forall_mem_cons.mpr ⟨lw_p3, List.forall_mem_cons.mpr ⟨lw_p4, List.forall_mem_cons.mpr ⟨lw_p5, List.forall_mem_cons.mpr ⟨lw_p6, List.forall_mem_cons.mpr ⟨lw_p7, List.forall_mem_cons.mpr ⟨lw_p8, List.forall_mem_cons.mpr ⟨lw_p9, List.forall_mem_cons.mpr ⟨lw_p10, List.forall_mem_cons.mpr ⟨lw_p11, List.forall_mem_cons.mpr ⟨lw_p12, List.forall_mem_cons.mpr ⟨lw_p13, List.forall_mem_cons.mpr ⟨lw_p14, List.forall_mem_cons.mpr ⟨lw_p15, fun _ h => absurd h List.not_mem_nil⟩⟩⟩⟩⟩⟩⟩⟩⟩⟩⟩⟩⟩⟩⟩⟩
theorem lw_p16 : lw_okq (⟨"RewindBoxModel", "move", "(I)V"⟩, 23) := ⟨⟨by decide +kernel, by decide +kernel⟩, List.mem_of_getElem? (i := 431) (by decide +kernel), List.mem_of_getElem? (i := 551) (by decide +kernel), List.mem_of_getElem? (i := 552) (by decide +kernel)⟩
theorem lw_p17 : lw_okq (⟨"RewindBoxModel", "work", "(II)V"⟩, 23) := ⟨⟨by decide +kernel, by decide +kernel⟩, List.mem_of_getElem? (i := 431) (by decide +kernel), List.mem_of_getElem? (i := 555) (by decide +kernel), List.mem_of_getElem? (i := 556) (by decide +kernel)⟩
theorem lw_p18 : lw_okq (⟨"RewindBoxModel", "meant", "(I)I"⟩, 23) := ⟨⟨by decide +kernel, by decide +kernel⟩, List.mem_of_getElem? (i := 431) (by decide +kernel), List.mem_of_getElem? (i := 559) (by decide +kernel), List.mem_of_getElem? (i := 560) (by decide +kernel)⟩
theorem lw_p19 : lw_okq (⟨"RewindBoxModel", "write", "(II)V"⟩, 23) := ⟨⟨by decide +kernel, by decide +kernel⟩, List.mem_of_getElem? (i := 431) (by decide +kernel), List.mem_of_getElem? (i := 563) (by decide +kernel), List.mem_of_getElem? (i := 564) (by decide +kernel)⟩
theorem lw_p20 : lw_okq (⟨"RewindBoxModel", "send", "(I)V"⟩, 23) := ⟨⟨by decide +kernel, by decide +kernel⟩, List.mem_of_getElem? (i := 431) (by decide +kernel), List.mem_of_getElem? (i := 567) (by decide +kernel), List.mem_of_getElem? (i := 568) (by decide +kernel)⟩
theorem lw_p21 : lw_okq (⟨"RewindBoxModel", "pass", "()V"⟩, 23) := ⟨⟨by decide +kernel, by decide +kernel⟩, List.mem_of_getElem? (i := 431) (by decide +kernel), List.mem_of_getElem? (i := 571) (by decide +kernel), List.mem_of_getElem? (i := 572) (by decide +kernel)⟩
theorem lw_p22 : lw_okq (⟨"RewindBoxModel", "live", "()Z"⟩, 23) := ⟨⟨by decide +kernel, by decide +kernel⟩, List.mem_of_getElem? (i := 431) (by decide +kernel), List.mem_of_getElem? (i := 575) (by decide +kernel), List.mem_of_getElem? (i := 576) (by decide +kernel)⟩
theorem lw_p23 : lw_okq (⟨"RewindBoxModel", "isFull", "(ZI)Z"⟩, 23) := ⟨⟨by decide +kernel, by decide +kernel⟩, List.mem_of_getElem? (i := 431) (by decide +kernel), List.mem_of_getElem? (i := 579) (by decide +kernel), List.mem_of_getElem? (i := 580) (by decide +kernel)⟩
theorem lw_p24 : lw_okq (⟨"RewindBoxModel", "writtenPages", "()I"⟩, 23) := ⟨⟨by decide +kernel, by decide +kernel⟩, List.mem_of_getElem? (i := 431) (by decide +kernel), List.mem_of_getElem? (i := 583) (by decide +kernel), List.mem_of_getElem? (i := 584) (by decide +kernel)⟩
theorem lw_p25 : lw_okq (⟨"RewindBoxModel", "allPages", "()I"⟩, 23) := ⟨⟨by decide +kernel, by decide +kernel⟩, List.mem_of_getElem? (i := 431) (by decide +kernel), List.mem_of_getElem? (i := 587) (by decide +kernel), List.mem_of_getElem? (i := 588) (by decide +kernel)⟩
theorem lw_p26 : lw_okq (⟨"RewindBoxModel", "takeInput", "()I"⟩, 23) := ⟨⟨by decide +kernel, by decide +kernel⟩, List.mem_of_getElem? (i := 431) (by decide +kernel), List.mem_of_getElem? (i := 591) (by decide +kernel), List.mem_of_getElem? (i := 592) (by decide +kernel)⟩
theorem lw_p27 : lw_okq (⟨"RewindBoxModel", "note", "(II)V"⟩, 23) := ⟨⟨by decide +kernel, by decide +kernel⟩, List.mem_of_getElem? (i := 431) (by decide +kernel), List.mem_of_getElem? (i := 595) (by decide +kernel), List.mem_of_getElem? (i := 596) (by decide +kernel)⟩
theorem lw_p28 : lw_okq (⟨"RewindBoxModel", "isThere", "(I)Z"⟩, 23) := ⟨⟨by decide +kernel, by decide +kernel⟩, List.mem_of_getElem? (i := 431) (by decide +kernel), List.mem_of_getElem? (i := 603) (by decide +kernel), List.mem_of_getElem? (i := 604) (by decide +kernel)⟩
def lw_privs_2 : List (MethodName × Nat) := [(⟨"RewindBoxModel", "move", "(I)V"⟩, 23), (⟨"RewindBoxModel", "work", "(II)V"⟩, 23), (⟨"RewindBoxModel", "meant", "(I)I"⟩, 23), (⟨"RewindBoxModel", "write", "(II)V"⟩, 23), (⟨"RewindBoxModel", "send", "(I)V"⟩, 23), (⟨"RewindBoxModel", "pass", "()V"⟩, 23), (⟨"RewindBoxModel", "live", "()Z"⟩, 23), (⟨"RewindBoxModel", "isFull", "(ZI)Z"⟩, 23), (⟨"RewindBoxModel", "writtenPages", "()I"⟩, 23), (⟨"RewindBoxModel", "allPages", "()I"⟩, 23), (⟨"RewindBoxModel", "takeInput", "()I"⟩, 23), (⟨"RewindBoxModel", "note", "(II)V"⟩, 23), (⟨"RewindBoxModel", "isThere", "(I)Z"⟩, 23)]
theorem lw_r2 : ∀ q ∈ lw_privs_2, lw_okq q := List.forall_mem_cons.mpr ⟨lw_p16, List.forall_mem_cons.mpr ⟨lw_p17, List.forall_mem_cons.mpr ⟨lw_p18, List.forall_mem_cons.mpr ⟨lw_p19, List.forall_mem_cons.mpr ⟨lw_p20, List.forall_mem_cons.mpr ⟨lw_p21, List.forall_mem_cons.mpr ⟨lw_p22, List.forall_mem_cons.mpr ⟨lw_p23, List.forall_mem_cons.mpr ⟨lw_p24, List.forall_mem_cons.mpr ⟨lw_p25, List.forall_mem_cons.mpr ⟨lw_p26, List.forall_mem_cons.mpr ⟨lw_p27, List.forall_mem_cons.mpr ⟨lw_p28, fun _ h => absurd h List.not_mem_nil⟩⟩⟩⟩⟩⟩⟩⟩⟩⟩⟩⟩⟩
def lw_privs : List (MethodName × Nat) := lw_privs_1 ++ (lw_privs_2)
def lw_tbl : List Cond := k2_sels lw_privs ++ tables_1
theorem lw_privs_ok : ∀ q ∈ lw_privs, lw_okq q := by
  show ∀ q ∈ lw_privs_1 ++ (lw_privs_2), lw_okq q
  exact List.forall_mem_append.mpr ⟨lw_r1, lw_r2⟩
end
section
/-! ===== BEGIN words of one list among another's, by their places ===== -/
theorem goodIn_r {big : List Cond} (ws : List Cond) (ps : List Nat) (hp : ws = ps.filterMap (fun i => big[i]?)) (h : ws.all goodWord = true) : GoodIn big ws := by
  intro w hw
  have h1 := List.all_eq_true.mp h w hw
  rw [hp] at hw
  obtain ⟨i, -, hi⟩ := List.mem_filterMap.mp hw
  have hm : w ∈ big := by first | exact List.mem_of_getElem? hi | exact List.getElem?_mem hi
  exact ⟨hm, good_of_word h1⟩
theorem goodIn_app {big a b : List Cond} (ha : GoodIn big a) (hb : GoodIn big b) : GoodIn big (a ++ b) := fun w h => (List.mem_append.mp h).elim (ha w) (hb w)
theorem goodIn_ca {big a b : List Cond} {c : Cond} (ha : GoodIn big (c :: a)) (hb : GoodIn big b) : GoodIn big (c :: (a ++ b)) := fun w h => (List.mem_cons.mp h).elim (fun e => ha w (List.mem_cons.mpr (Or.inl e))) (fun h => (List.mem_append.mp h).elim (fun h => ha w (List.mem_cons.mpr (Or.inr h))) (hb w))
theorem goodIn_sub {big ws : List Cond} (hm : ∀ w ∈ ws, w ∈ big) (h : ws.all goodWord = true) : GoodIn big ws := fun w hw => ⟨hm w hw, good_of_word (List.all_eq_true.mp h w hw)⟩
/-! ===== END ===== -/

/-! ===== BEGIN printed: names, fields, word lists, decode rows ===== -/
def RX0 : String := "RewindBox$Inputs"
def TX0 : u_T := fun k => match k with
  | 0 => ("RewindBox$Inputs", "values", "[I", true)
  | 1 => ("RewindBox$Inputs", "first", "I", false)
  | _ => ("RewindBox$Inputs", "count", "I", false)
def tyX0 : Nat → FieldType := fun k => match k with
  | 0 => .array .int
  | 1 => .int
  | _ => .int
abbrev wsX00 : List Cond := u_ws RX0 TX0 3
theorem nmX0 : ∀ a, a < 3 → ∀ b, b < 3 → a ≠ b → (TX0 a).2.1 ≠ (TX0 b).2.1 := by decide +kernel
theorem tyX0_ok : ∀ k, k < 3 → parseFieldDescriptor (TX0 k).2.2.1 = some (tyX0 k) := by decide +kernel
abbrev cX0_init : ByteArray := prog_2_method_1_code
def yX0_init : MethodName := ⟨RX0, "<init>", "()V"⟩
abbrev cX0_clear : ByteArray := prog_2_method_2_code
def yX0_clear : MethodName := ⟨RX0, "clear", "()V"⟩
abbrev cX0_add : ByteArray := prog_2_method_3_code
def yX0_add : MethodName := ⟨RX0, "add", "(I)V"⟩
abbrev cX0_take : ByteArray := prog_2_method_4_code
def yX0_take : MethodName := ⟨RX0, "take", "()I"⟩
def RX1 : String := "RewindBox$Log"
def TX1 : u_T := fun k => match k with
  | 0 => ("RewindBox$Log", "positions", "[I", true)
  | 1 => ("RewindBox$Log", "kinds", "[I", true)
  | 2 => ("RewindBox$Log", "values", "[I", true)
  | _ => ("RewindBox$Log", "count", "I", false)
def tyX1 : Nat → FieldType := fun k => match k with
  | 0 => .array .int
  | 1 => .array .int
  | 2 => .array .int
  | _ => .int
abbrev wsX10 : List Cond := u_ws RX1 TX1 4
theorem nmX1 : ∀ a, a < 4 → ∀ b, b < 4 → a ≠ b → (TX1 a).2.1 ≠ (TX1 b).2.1 := by decide +kernel
theorem tyX1_ok : ∀ k, k < 4 → parseFieldDescriptor (TX1 k).2.2.1 = some (tyX1 k) := by decide +kernel
abbrev cX1_init : ByteArray := prog_3_method_1_code
def yX1_init : MethodName := ⟨RX1, "<init>", "()V"⟩
abbrev cX1_add : ByteArray := prog_3_method_2_code
def yX1_add : MethodName := ⟨RX1, "add", "(III)V"⟩
abbrev cX1_countBefore : ByteArray := prog_3_method_3_code
def yX1_countBefore : MethodName := ⟨RX1, "countBefore", "(I)I"⟩
def RX2 : String := "RewindBox$Machine"
def TX2 : u_T := fun k => match k with
  | 0 => ("RewindBox$Machine", "registers", "[I", true)
  | 1 => ("RewindBox$Machine", "memory", "[I", true)
  | 2 => ("RewindBox$Machine", "keptOuts", "[I", true)
  | 3 => ("RewindBox$Machine", "pc", "I", false)
  | 4 => ("RewindBox$Machine", "back", "I", false)
  | 5 => ("RewindBox$Machine", "open", "Z", false)
  | 6 => ("RewindBox$Machine", "outCount", "I", false)
  | _ => ("RewindBox$Machine", "written", "I", false)
def tyX2 : Nat → FieldType := fun k => match k with
  | 0 => .array .int
  | 1 => .array .int
  | 2 => .array .int
  | 3 => .int
  | 4 => .int
  | 5 => .boolean
  | 6 => .int
  | _ => .int
abbrev wsX20 : List Cond := u_ws RX2 TX2 8
theorem nmX2 : ∀ a, a < 8 → ∀ b, b < 8 → a ≠ b → (TX2 a).2.1 ≠ (TX2 b).2.1 := by decide +kernel
theorem tyX2_ok : ∀ k, k < 8 → parseFieldDescriptor (TX2 k).2.2.1 = some (tyX2 k) := by decide +kernel
abbrev cX2_init : ByteArray := prog_4_method_1_code
def yX2_init : MethodName := ⟨RX2, "<init>", "()V"⟩
abbrev cX2_reset : ByteArray := prog_4_method_2_code
def yX2_reset : MethodName := ⟨RX2, "reset", "()V"⟩
abbrev cX2_nextOp : ByteArray := prog_4_method_3_code
def yX2_nextOp : MethodName := ⟨RX2, "nextOp", "()I"⟩
abbrev cX2_writtenWithNext : ByteArray := prog_4_method_4_code
def yX2_writtenWithNext : MethodName := ⟨RX2, "writtenWithNext", "()I"⟩
abbrev cX2_takeRing : ByteArray := prog_4_method_5_code
def yX2_takeRing : MethodName := ⟨RX2, "takeRing", "()V"⟩
abbrev cX2_perform : ByteArray := prog_4_method_6_code
def yX2_perform : MethodName := ⟨RX2, "perform", "(II)V"⟩
abbrev cX2_compute : ByteArray := prog_4_method_7_code
def yX2_compute : MethodName := ⟨RX2, "compute", "(III)I"⟩
abbrev cX2_jump : ByteArray := prog_4_method_8_code
def yX2_jump : MethodName := ⟨RX2, "jump", "(III)V"⟩
abbrev cX2_store : ByteArray := prog_4_method_9_code
def yX2_store : MethodName := ⟨RX2, "store", "(II)V"⟩
abbrev cX2_putOut : ByteArray := prog_4_method_10_code
def yX2_putOut : MethodName := ⟨RX2, "putOut", "(I)V"⟩
abbrev cX2_target : ByteArray := prog_4_method_11_code
def yX2_target : MethodName := ⟨RX2, "target", "(I)I"⟩
abbrev cX2_pageBit : ByteArray := prog_4_method_12_code
def yX2_pageBit : MethodName := ⟨RX2, "pageBit", "(I)I"⟩
abbrev cX2_fieldA : ByteArray := prog_4_method_13_code
def yX2_fieldA : MethodName := ⟨RX2, "fieldA", "(I)I"⟩
abbrev cX2_fieldB : ByteArray := prog_4_method_14_code
def yX2_fieldB : MethodName := ⟨RX2, "fieldB", "(I)I"⟩
abbrev cX2_fieldC : ByteArray := prog_4_method_15_code
def yX2_fieldC : MethodName := ⟨RX2, "fieldC", "(I)I"⟩
abbrev cX2_signedByte : ByteArray := prog_4_method_16_code
def yX2_signedByte : MethodName := ⟨RX2, "signedByte", "(I)I"⟩
abbrev cX2_signedHalf : ByteArray := prog_4_method_17_code
def yX2_signedHalf : MethodName := ⟨RX2, "signedHalf", "(I)I"⟩
def RX3 : String := "RewindBox$Snapshot"
def TX3 : u_T := fun k => match k with
  | 0 => ("RewindBox$Snapshot", "registers", "[I", true)
  | 1 => ("RewindBox$Snapshot", "pc", "I", false)
  | 2 => ("RewindBox$Snapshot", "back", "I", false)
  | 3 => ("RewindBox$Snapshot", "open", "Z", false)
  | 4 => ("RewindBox$Snapshot", "outCount", "I", false)
  | 5 => ("RewindBox$Snapshot", "written", "I", false)
  | _ => ("RewindBox$Snapshot", "firstPage", "I", false)
def tyX3 : Nat → FieldType := fun k => match k with
  | 0 => .array .int
  | 1 => .int
  | 2 => .int
  | 3 => .boolean
  | 4 => .int
  | 5 => .int
  | _ => .int
abbrev wsX30 : List Cond := u_ws RX3 TX3 7
theorem nmX3 : ∀ a, a < 7 → ∀ b, b < 7 → a ≠ b → (TX3 a).2.1 ≠ (TX3 b).2.1 := by decide +kernel
theorem tyX3_ok : ∀ k, k < 7 → parseFieldDescriptor (TX3 k).2.2.1 = some (tyX3 k) := by decide +kernel
abbrev cX3_init : ByteArray := prog_5_method_1_code
def yX3_init : MethodName := ⟨RX3, "<init>", "()V"⟩
abbrev cX3_pageCount : ByteArray := prog_5_method_2_code
def yX3_pageCount : MethodName := ⟨RX3, "pageCount", "()I"⟩
abbrev cX3_hasPage : ByteArray := prog_5_method_3_code
def yX3_hasPage : MethodName := ⟨RX3, "hasPage", "(I)Z"⟩
abbrev cX3_takeFrom : ByteArray := prog_5_method_4_code
def yX3_takeFrom : MethodName := ⟨RX3, "takeFrom", "(LRewindBox$Machine;)V"⟩
abbrev cX3_giveBackTo : ByteArray := prog_5_method_5_code
def yX3_giveBackTo : MethodName := ⟨RX3, "giveBackTo", "(LRewindBox$Machine;)V"⟩
def RX4 : String := "RewindBox$Snapshots"
def TX4 : u_T := fun k => match k with
  | 0 => ("RewindBox$Snapshots", "firstMemory", "[I", true)
  | 1 => ("RewindBox$Snapshots", "pageWords", "[I", true)
  | 2 => ("RewindBox$Snapshots", "row", "[LRewindBox$Snapshot;", true)
  | 3 => ("RewindBox$Snapshots", "count", "I", false)
  | _ => ("RewindBox$Snapshots", "pages", "I", false)
def tyX4 : Nat → FieldType := fun k => match k with
  | 0 => .array .int
  | 1 => .array .int
  | 2 => .array (.object "RewindBox$Snapshot")
  | 3 => .int
  | _ => .int
abbrev wsX40 : List Cond := u_ws RX4 TX4 5
theorem nmX4 : ∀ a, a < 5 → ∀ b, b < 5 → a ≠ b → (TX4 a).2.1 ≠ (TX4 b).2.1 := by decide +kernel
theorem tyX4_ok : ∀ k, k < 5 → parseFieldDescriptor (TX4 k).2.2.1 = some (tyX4 k) := by decide +kernel
abbrev cX4_init : ByteArray := prog_6_method_1_code
def yX4_init : MethodName := ⟨RX4, "<init>", "()V"⟩
abbrev cX4_begin : ByteArray := prog_6_method_2_code
def yX4_begin : MethodName := ⟨RX4, "begin", "(LRewindBox$Machine;)V"⟩
abbrev cX4_hasRoomFor : ByteArray := prog_6_method_3_code
def yX4_hasRoomFor : MethodName := ⟨RX4, "hasRoomFor", "(I)Z"⟩
abbrev cX4_add : ByteArray := prog_6_method_4_code
def yX4_add : MethodName := ⟨RX4, "add", "(LRewindBox$Machine;)V"⟩
abbrev cX4_keepFirst : ByteArray := prog_6_method_5_code
def yX4_keepFirst : MethodName := ⟨RX4, "keepFirst", "(I)V"⟩
abbrev cX4_restore : ByteArray := prog_6_method_6_code
def yX4_restore : MethodName := ⟨RX4, "restore", "(ILRewindBox$Machine;)V"⟩
abbrev cX4_layPages : ByteArray := prog_6_method_7_code
def yX4_layPages : MethodName := ⟨RX4, "layPages", "(LRewindBox$Snapshot;[I)V"⟩
def RX5 : String := "RewindBox"
def TX5 : u_T := fun k => match k with
  | 0 => ("RewindBox", "interval", "I", true)
  | 1 => ("RewindBox", "machine", "LRewindBox$Machine;", true)
  | 2 => ("RewindBox", "inputs", "LRewindBox$Inputs;", true)
  | 3 => ("RewindBox", "entries", "LRewindBox$Log;", true)
  | 4 => ("RewindBox", "snapshots", "LRewindBox$Snapshots;", true)
  | 5 => ("RewindBox", "recording", "Z", false)
  | 6 => ("RewindBox", "ringCame", "Z", false)
  | 7 => ("RewindBox", "now", "I", false)
  | _ => ("RewindBox", "end", "I", false)
def tyX5 : Nat → FieldType := fun k => match k with
  | 0 => .int
  | 1 => .object "RewindBox$Machine"
  | 2 => .object "RewindBox$Inputs"
  | 3 => .object "RewindBox$Log"
  | 4 => .object "RewindBox$Snapshots"
  | 5 => .boolean
  | 6 => .boolean
  | 7 => .int
  | _ => .int
abbrev wsX50 : List Cond := u_ws RX5 TX5 9
theorem nmX5 : ∀ a, a < 9 → ∀ b, b < 9 → a ≠ b → (TX5 a).2.1 ≠ (TX5 b).2.1 := by decide +kernel
theorem tyX5_ok : ∀ k, k < 9 → parseFieldDescriptor (TX5 k).2.2.1 = some (tyX5 k) := by decide +kernel
abbrev cX5_init : ByteArray := prog_1_method_1_code
def yX5_init : MethodName := ⟨RX5, "<init>", "(I)V"⟩
abbrev cX5_poke : ByteArray := prog_1_method_2_code
def yX5_poke : MethodName := ⟨RX5, "poke", "(II)Z"⟩
abbrev cX5_start : ByteArray := prog_1_method_3_code
def yX5_start : MethodName := ⟨RX5, "start", "()V"⟩
abbrev cX5_stop : ByteArray := prog_1_method_4_code
def yX5_stop : MethodName := ⟨RX5, "stop", "()V"⟩
abbrev cX5_give : ByteArray := prog_1_method_5_code
def yX5_give : MethodName := ⟨RX5, "give", "(I)I"⟩
abbrev cX5_ring : ByteArray := prog_1_method_6_code
def yX5_ring : MethodName := ⟨RX5, "ring", "()Z"⟩
abbrev cX5_step : ByteArray := prog_1_method_7_code
def yX5_step : MethodName := ⟨RX5, "step", "(I)I"⟩
abbrev cX5_go : ByteArray := prog_1_method_8_code
def yX5_go : MethodName := ⟨RX5, "go", "(I)Z"⟩
abbrev cX5_far : ByteArray := prog_1_method_9_code
def yX5_far : MethodName := ⟨RX5, "far", "(I)I"⟩
abbrev cX5_cut : ByteArray := prog_1_method_10_code
def yX5_cut : MethodName := ⟨RX5, "cut", "()I"⟩
abbrev cX5_record : ByteArray := prog_1_method_11_code
def yX5_record : MethodName := ⟨RX5, "record", "(I)I"⟩
abbrev cX5_pages : ByteArray := prog_1_method_12_code
def yX5_pages : MethodName := ⟨RX5, "pages", "(I)I"⟩
abbrev cX5_log : ByteArray := prog_1_method_13_code
def yX5_log : MethodName := ⟨RX5, "log", "(II)I"⟩
abbrev cX5_register : ByteArray := prog_1_method_14_code
def yX5_register : MethodName := ⟨RX5, "register", "(I)I"⟩
abbrev cX5_word : ByteArray := prog_1_method_15_code
def yX5_word : MethodName := ⟨RX5, "word", "(I)I"⟩
abbrev cX5_outs : ByteArray := prog_1_method_16_code
def yX5_outs : MethodName := ⟨RX5, "outs", "()I"⟩
abbrev cX5_out : ByteArray := prog_1_method_17_code
def yX5_out : MethodName := ⟨RX5, "out", "(I)I"⟩
abbrev cX5_isPlace : ByteArray := prog_1_method_18_code
def yX5_isPlace : MethodName := ⟨RX5, "isPlace", "(I)Z"⟩
abbrev cX5_placeOf : ByteArray := prog_1_method_19_code
def yX5_placeOf : MethodName := ⟨RX5, "placeOf", "(I)I"⟩
abbrev cX5_isOnRecord : ByteArray := prog_1_method_20_code
def yX5_isOnRecord : MethodName := ⟨RX5, "isOnRecord", "(I)Z"⟩
abbrev cX5_tryStep : ByteArray := prog_1_method_21_code
def yX5_tryStep : MethodName := ⟨RX5, "tryStep", "()Z"⟩
abbrev cX5_nextLiveKind : ByteArray := prog_1_method_22_code
def yX5_nextLiveKind : MethodName := ⟨RX5, "nextLiveKind", "()I"⟩
abbrev cX5_isFull : ByteArray := prog_1_method_23_code
def yX5_isFull : MethodName := ⟨RX5, "isFull", "(I)Z"⟩
abbrev cX5_stepLive : ByteArray := prog_1_method_24_code
def yX5_stepLive : MethodName := ⟨RX5, "stepLive", "(I)V"⟩
abbrev cX5_stepByLog : ByteArray := prog_1_method_25_code
def yX5_stepByLog : MethodName := ⟨RX5, "stepByLog", "()V"⟩
abbrev cX5_advance : ByteArray := prog_1_method_26_code
def yX5_advance : MethodName := ⟨RX5, "advance", "(II)V"⟩
def RX6 : String := "RewindBoxModel"
def TX6 : u_T := fun k => match k with
  | 0 => ("RewindBoxModel", "interval", "I", true)
  | 1 => ("RewindBoxModel", "first", "[I", true)
  | 2 => ("RewindBoxModel", "memory", "[I", true)
  | 3 => ("RewindBoxModel", "registers", "[I", true)
  | 4 => ("RewindBoxModel", "pc", "I", false)
  | 5 => ("RewindBoxModel", "back", "I", false)
  | 6 => ("RewindBoxModel", "open", "Z", false)
  | 7 => ("RewindBoxModel", "kept", "[I", true)
  | 8 => ("RewindBoxModel", "sent", "I", false)
  | 9 => ("RewindBoxModel", "records", "Z", false)
  | 10 => ("RewindBoxModel", "position", "I", false)
  | 11 => ("RewindBoxModel", "end", "I", false)
  | 12 => ("RewindBoxModel", "logAt", "[I", true)
  | 13 => ("RewindBoxModel", "logKind", "[I", true)
  | 14 => ("RewindBoxModel", "logInput", "[I", true)
  | 15 => ("RewindBoxModel", "entries", "I", false)
  | 16 => ("RewindBoxModel", "passed", "I", false)
  | 17 => ("RewindBoxModel", "snapshots", "I", false)
  | 18 => ("RewindBoxModel", "pagesOf", "[I", true)
  | 19 => ("RewindBoxModel", "written", "[Z", true)
  | 20 => ("RewindBoxModel", "inputs", "[I", true)
  | 21 => ("RewindBoxModel", "waiting", "I", false)
  | _ => ("RewindBoxModel", "rang", "Z", false)
def tyX6 : Nat → FieldType := fun k => match k with
  | 0 => .int
  | 1 => .array .int
  | 2 => .array .int
  | 3 => .array .int
  | 4 => .int
  | 5 => .int
  | 6 => .boolean
  | 7 => .array .int
  | 8 => .int
  | 9 => .boolean
  | 10 => .int
  | 11 => .int
  | 12 => .array .int
  | 13 => .array .int
  | 14 => .array .int
  | 15 => .int
  | 16 => .int
  | 17 => .int
  | 18 => .array .int
  | 19 => .array .boolean
  | 20 => .array .int
  | 21 => .int
  | _ => .boolean
abbrev wsX60 : List Cond := u_ws RX6 TX6 23
theorem nmX6 : ∀ a, a < 23 → ∀ b, b < 23 → a ≠ b → (TX6 a).2.1 ≠ (TX6 b).2.1 := by decide +kernel
theorem tyX6_ok : ∀ k, k < 23 → parseFieldDescriptor (TX6 k).2.2.1 = some (tyX6 k) := by decide +kernel
abbrev cX6_init : ByteArray := prog_8_method_1_code
def yX6_init : MethodName := ⟨RX6, "<init>", "(I)V"⟩
abbrev cX6_isPlace : ByteArray := prog_8_method_2_code
def yX6_isPlace : MethodName := ⟨RX6, "isPlace", "(I)Z"⟩
abbrev cX6_poke : ByteArray := prog_8_method_3_code
def yX6_poke : MethodName := ⟨RX6, "poke", "(II)Z"⟩
abbrev cX6_rewind : ByteArray := prog_8_method_4_code
def yX6_rewind : MethodName := ⟨RX6, "rewind", "()V"⟩
abbrev cX6_start : ByteArray := prog_8_method_5_code
def yX6_start : MethodName := ⟨RX6, "start", "()V"⟩
abbrev cX6_stop : ByteArray := prog_8_method_6_code
def yX6_stop : MethodName := ⟨RX6, "stop", "()V"⟩
abbrev cX6_give : ByteArray := prog_8_method_7_code
def yX6_give : MethodName := ⟨RX6, "give", "(I)I"⟩
abbrev cX6_ring : ByteArray := prog_8_method_8_code
def yX6_ring : MethodName := ⟨RX6, "ring", "()Z"⟩
abbrev cX6_meant : ByteArray := prog_8_method_9_code
def yX6_meant : MethodName := ⟨RX6, "meant", "(I)I"⟩
abbrev cX6_interrupt : ByteArray := prog_8_method_10_code
def yX6_interrupt : MethodName := ⟨RX6, "interrupt", "()V"⟩
abbrev cX6_send : ByteArray := prog_8_method_11_code
def yX6_send : MethodName := ⟨RX6, "send", "(I)V"⟩
abbrev cX6_write : ByteArray := prog_8_method_12_code
def yX6_write : MethodName := ⟨RX6, "write", "(II)V"⟩
abbrev cX6_work : ByteArray := prog_8_method_13_code
def yX6_work : MethodName := ⟨RX6, "work", "(II)V"⟩
abbrev cX6_move : ByteArray := prog_8_method_14_code
def yX6_move : MethodName := ⟨RX6, "move", "(I)V"⟩
abbrev cX6_instruct : ByteArray := prog_8_method_15_code
def yX6_instruct : MethodName := ⟨RX6, "instruct", "(II)V"⟩
abbrev cX6_pass : ByteArray := prog_8_method_16_code
def yX6_pass : MethodName := ⟨RX6, "pass", "()V"⟩
abbrev cX6_again : ByteArray := prog_8_method_17_code
def yX6_again : MethodName := ⟨RX6, "again", "()V"⟩
abbrev cX6_writtenPages : ByteArray := prog_8_method_18_code
def yX6_writtenPages : MethodName := ⟨RX6, "writtenPages", "()I"⟩
abbrev cX6_allPages : ByteArray := prog_8_method_19_code
def yX6_allPages : MethodName := ⟨RX6, "allPages", "()I"⟩
abbrev cX6_isFull : ByteArray := prog_8_method_20_code
def yX6_isFull : MethodName := ⟨RX6, "isFull", "(ZI)Z"⟩
abbrev cX6_note : ByteArray := prog_8_method_21_code
def yX6_note : MethodName := ⟨RX6, "note", "(II)V"⟩
abbrev cX6_takeInput : ByteArray := prog_8_method_22_code
def yX6_takeInput : MethodName := ⟨RX6, "takeInput", "()I"⟩
abbrev cX6_live : ByteArray := prog_8_method_23_code
def yX6_live : MethodName := ⟨RX6, "live", "()Z"⟩
abbrev cX6_step : ByteArray := prog_8_method_24_code
def yX6_step : MethodName := ⟨RX6, "step", "(I)I"⟩
abbrev cX6_isThere : ByteArray := prog_8_method_25_code
def yX6_isThere : MethodName := ⟨RX6, "isThere", "(I)Z"⟩
abbrev cX6_go : ByteArray := prog_8_method_26_code
def yX6_go : MethodName := ⟨RX6, "go", "(I)Z"⟩
abbrev cX6_far : ByteArray := prog_8_method_27_code
def yX6_far : MethodName := ⟨RX6, "far", "(I)I"⟩
abbrev cX6_cut : ByteArray := prog_8_method_28_code
def yX6_cut : MethodName := ⟨RX6, "cut", "()I"⟩
abbrev cX6_record : ByteArray := prog_8_method_29_code
def yX6_record : MethodName := ⟨RX6, "record", "(I)I"⟩
abbrev cX6_pages : ByteArray := prog_8_method_30_code
def yX6_pages : MethodName := ⟨RX6, "pages", "(I)I"⟩
abbrev cX6_log : ByteArray := prog_8_method_31_code
def yX6_log : MethodName := ⟨RX6, "log", "(II)I"⟩
abbrev cX6_register : ByteArray := prog_8_method_32_code
def yX6_register : MethodName := ⟨RX6, "register", "(I)I"⟩
abbrev cX6_word : ByteArray := prog_8_method_33_code
def yX6_word : MethodName := ⟨RX6, "word", "(I)I"⟩
abbrev cX6_outs : ByteArray := prog_8_method_34_code
def yX6_outs : MethodName := ⟨RX6, "outs", "()I"⟩
abbrev cX6_out : ByteArray := prog_8_method_35_code
def yX6_out : MethodName := ⟨RX6, "out", "(I)I"⟩
def RJ6 : String := "java/lang/Integer"
def TJ6 : u_T := fun k => match k with
  | _ => ("", "", "", false)
def tyJ6 : Nat → FieldType := fun k => match k with
  | _ => .int
abbrev wsJ60 : List Cond := u_ws RJ6 TJ6 0
theorem nmJ6 : ∀ a, a < 0 → ∀ b, b < 0 → a ≠ b → (TJ6 a).2.1 ≠ (TJ6 b).2.1 := by decide +kernel
theorem tyJ6_ok : ∀ k, k < 0 → parseFieldDescriptor (TJ6 k).2.2.1 = some (tyJ6 k) := by decide +kernel
abbrev cJ6_bitCount_0f7a4 : ByteArray := prog_9_method_49_code
def yJ6_bitCount_0f7a4 : MethodName := ⟨RJ6, "bitCount", "(I)I"⟩
def RJ9 : String := "java/lang/Math"
def TJ9 : u_T := fun k => match k with
  | _ => ("", "", "", false)
def tyJ9 : Nat → FieldType := fun k => match k with
  | _ => .int
abbrev wsJ90 : List Cond := u_ws RJ9 TJ9 0
theorem nmJ9 : ∀ a, a < 0 → ∀ b, b < 0 → a ≠ b → (TJ9 a).2.1 ≠ (TJ9 b).2.1 := by decide +kernel
theorem tyJ9_ok : ∀ k, k < 0 → parseFieldDescriptor (TJ9 k).2.2.1 = some (tyJ9 k) := by decide +kernel
abbrev cJ9_max_7cf53 : ByteArray := prog_10_method_65_code
def yJ9_max_7cf53 : MethodName := ⟨RJ9, "max", "(II)I"⟩
abbrev cJ9_min_7cf53 : ByteArray := prog_10_method_69_code
def yJ9_min_7cf53 : MethodName := ⟨RJ9, "min", "(II)I"⟩
def RJ10 : String := "java/lang/System"
def TJ10 : u_T := fun k => match k with
  | _ => ("", "", "", false)
def tyJ10 : Nat → FieldType := fun k => match k with
  | _ => .int
abbrev wsJ100 : List Cond := u_ws RJ10 TJ10 0
theorem nmJ10 : ∀ a, a < 0 → ∀ b, b < 0 → a ≠ b → (TJ10 a).2.1 ≠ (TJ10 b).2.1 := by decide +kernel
theorem tyJ10_ok : ∀ k, k < 0 → parseFieldDescriptor (TJ10 k).2.2.1 = some (tyJ10 k) := by decide +kernel
def RJ7 : String := "java/util/Arrays"
def TJ7 : u_T := fun k => match k with
  | _ => ("", "", "", false)
def tyJ7 : Nat → FieldType := fun k => match k with
  | _ => .int
abbrev wsJ70 : List Cond := u_ws RJ7 TJ7 0
theorem nmJ7 : ∀ a, a < 0 → ∀ b, b < 0 → a ≠ b → (TJ7 a).2.1 ≠ (TJ7 b).2.1 := by decide +kernel
theorem tyJ7_ok : ∀ k, k < 0 → parseFieldDescriptor (TJ7 k).2.2.1 = some (tyJ7 k) := by decide +kernel
abbrev cJ7_fill_53178 : ByteArray := prog_12_method_103_code
def yJ7_fill_53178 : MethodName := ⟨RJ7, "fill", "([II)V"⟩
def RL : String := "RewindBoxLaw"
abbrev cL_cell : ByteArray := method_2_code
def yL_cell : MethodName := ⟨RL, "cell", "([II)I"⟩
abbrev cL_law : ByteArray := code
def yL_law : MethodName := ⟨RL, "law", "([I)Z"⟩
def wsX0_init : List Cond := .code yX0_init cX0_init 1 none :: ([.methodLink RX0 3 objectInit, .instanceMethod objectInit, .code objectInit ⟨#[0xb1]⟩ 1 none, .arrayClass .int, .fieldLink RX0 9 "RewindBox$Inputs" "values" "[I"] ++ wsX00)
def wsX0_clear : List Cond := .code yX0_clear cX0_clear 1 none :: ([.fieldLink RX0 15 "RewindBox$Inputs" "first" "I", .fieldLink RX0 19 "RewindBox$Inputs" "count" "I"] ++ wsX00)
def wsX0_add : List Cond := .code yX0_add cX0_add 2 none :: ([.fieldLink RX0 9 "RewindBox$Inputs" "values" "[I", .fieldLink RX0 15 "RewindBox$Inputs" "first" "I", .fieldLink RX0 19 "RewindBox$Inputs" "count" "I"] ++ wsX00)
def wsX0_take : List Cond := .code yX0_take cX0_take 2 (some .int) :: ([.fieldLink RX0 9 "RewindBox$Inputs" "values" "[I", .fieldLink RX0 15 "RewindBox$Inputs" "first" "I", .fieldLink RX0 19 "RewindBox$Inputs" "count" "I"] ++ wsX00)
def wsX1_init : List Cond := .code yX1_init cX1_init 1 none :: ([.methodLink RX1 3 objectInit, .instanceMethod objectInit, .code objectInit ⟨#[0xb1]⟩ 1 none, .arrayClass .int, .fieldLink RX1 9 "RewindBox$Log" "positions" "[I", .fieldLink RX1 15 "RewindBox$Log" "kinds" "[I", .fieldLink RX1 18 "RewindBox$Log" "values" "[I"] ++ wsX10)
def wsX1_add : List Cond := .code yX1_add cX1_add 4 none :: ([.fieldLink RX1 9 "RewindBox$Log" "positions" "[I", .fieldLink RX1 21 "RewindBox$Log" "count" "I", .fieldLink RX1 15 "RewindBox$Log" "kinds" "[I", .fieldLink RX1 18 "RewindBox$Log" "values" "[I"] ++ wsX10)
def wsX1_countBefore : List Cond := .code yX1_countBefore cX1_countBefore 5 (some .int) :: ([.fieldLink RX1 21 "RewindBox$Log" "count" "I", .fieldLink RX1 9 "RewindBox$Log" "positions" "[I"] ++ wsX10)
def wsX2_init : List Cond := .code yX2_init cX2_init 1 none :: ([.methodLink RX2 3 objectInit, .instanceMethod objectInit, .code objectInit ⟨#[0xb1]⟩ 1 none, .arrayClass .int, .fieldLink RX2 9 "RewindBox$Machine" "registers" "[I", .fieldLink RX2 15 "RewindBox$Machine" "memory" "[I", .fieldLink RX2 18 "RewindBox$Machine" "keptOuts" "[I"] ++ wsX20)
def wsJ7_fill_53178 : List Cond := .code yJ7_fill_53178 cJ7_fill_53178 4 none :: ([])
def wsX2_reset : List Cond := .code yX2_reset cX2_reset 1 none :: ([.fieldLink RX2 9 "RewindBox$Machine" "registers" "[I", .fieldLink RX2 27 "RewindBox$Machine" "pc" "I", .fieldLink RX2 31 "RewindBox$Machine" "back" "I", .fieldLink RX2 34 "RewindBox$Machine" "open" "Z", .fieldLink RX2 38 "RewindBox$Machine" "outCount" "I", .fieldLink RX2 41 "RewindBox$Machine" "written" "I", .methodLink RX2 21 yJ7_fill_53178, .static yJ7_fill_53178, .initialized RJ7, .code yJ7_fill_53178 cJ7_fill_53178 4 none] ++ wsX20)
def wsX2_nextOp : List Cond := .code yX2_nextOp cX2_nextOp 1 (some .int) :: ([.fieldLink RX2 15 "RewindBox$Machine" "memory" "[I", .fieldLink RX2 27 "RewindBox$Machine" "pc" "I"] ++ wsX20)
def wsX2_fieldB : List Cond := .code yX2_fieldB cX2_fieldB 1 (some .int) :: ([])
def wsX2_signedByte : List Cond := .code yX2_signedByte cX2_signedByte 1 (some .int) :: ([])
def wsX5_placeOf : List Cond := .code yX5_placeOf cX5_placeOf 1 (some .int) :: ([])
def wsX2_target : List Cond := .code yX2_target cX2_target 2 (some .int) :: ([.fieldLink RX2 9 "RewindBox$Machine" "registers" "[I", .methodLink RX2 61 yX2_fieldB, .static yX2_fieldB, .initialized RX2, .code yX2_fieldB cX2_fieldB 1 (some .int), .methodLink RX2 86 yX2_signedByte, .static yX2_signedByte, .code yX2_signedByte cX2_signedByte 1 (some .int), .static yX5_placeOf, .initialized RX5, .code yX5_placeOf cX5_placeOf 1 (some .int)] ++ wsX20)
def wsX2_pageBit : List Cond := .code yX2_pageBit cX2_pageBit 1 (some .int) :: ([])
def wsX2_writtenWithNext_r1 : List Cond := [Cond.fieldLink RX2 41 "RewindBox$Machine" "written" "I", Cond.fieldLink RX2 15 "RewindBox$Machine" "memory" "[I", Cond.fieldLink RX2 27 "RewindBox$Machine" "pc" "I", Cond.methodLink RX2 44 yX2_nextOp, Cond.instanceMethod yX2_nextOp, Cond.selects RX2 yX2_nextOp yX2_nextOp, Cond.initialized RX2, Cond.code yX2_nextOp cX2_nextOp 1 (some .int), Cond.methodLink RX2 48 yX2_target, Cond.instanceMethod yX2_target, Cond.selects RX2 yX2_target yX2_target, Cond.code yX2_target cX2_target 2 (some .int), Cond.fieldLink RX2 9 "RewindBox$Machine" "registers" "[I", Cond.methodLink RX2 61 yX2_fieldB, Cond.static yX2_fieldB, Cond.code yX2_fieldB cX2_fieldB 1 (some .int), Cond.methodLink RX2 86 yX2_signedByte, Cond.static yX2_signedByte, Cond.code yX2_signedByte cX2_signedByte 1 (some .int), Cond.static yX5_placeOf, Cond.initialized RX5, Cond.code yX5_placeOf cX5_placeOf 1 (some .int), Cond.methodLink RX2 52 yX2_pageBit, Cond.static yX2_pageBit]
def wsX2_writtenWithNext_r2 : List Cond := [Cond.code yX2_pageBit cX2_pageBit 1 (some .int)]
def wsX2_writtenWithNext : List Cond := .code yX2_writtenWithNext cX2_writtenWithNext 1 (some .int) :: ((wsX2_writtenWithNext_r1 ++ wsX2_writtenWithNext_r2) ++ wsX20)
def wsX2_takeRing : List Cond := .code yX2_takeRing cX2_takeRing 1 none :: ([.fieldLink RX2 27 "RewindBox$Machine" "pc" "I", .fieldLink RX2 31 "RewindBox$Machine" "back" "I", .fieldLink RX2 34 "RewindBox$Machine" "open" "Z"] ++ wsX20)
def wsX2_fieldA : List Cond := .code yX2_fieldA cX2_fieldA 1 (some .int) :: ([])
def wsX2_fieldC : List Cond := .code yX2_fieldC cX2_fieldC 1 (some .int) :: ([])
def wsX2_compute : List Cond := .code yX2_compute cX2_compute 3 (some .int) :: ([])
def wsX2_signedHalf : List Cond := .code yX2_signedHalf cX2_signedHalf 1 (some .int) :: ([])
def wsX2_store : List Cond := .code yX2_store cX2_store 3 none :: ([.fieldLink RX2 15 "RewindBox$Machine" "memory" "[I", .fieldLink RX2 41 "RewindBox$Machine" "written" "I", .methodLink RX2 52 yX2_pageBit, .static yX2_pageBit, .initialized RX2, .code yX2_pageBit cX2_pageBit 1 (some .int)] ++ wsX20)
def wsX2_putOut : List Cond := .code yX2_putOut cX2_putOut 2 none :: ([.fieldLink RX2 38 "RewindBox$Machine" "outCount" "I", .fieldLink RX2 18 "RewindBox$Machine" "keptOuts" "[I"] ++ wsX20)
def wsX2_jump : List Cond := .code yX2_jump cX2_jump 4 none :: ([.fieldLink RX2 27 "RewindBox$Machine" "pc" "I", .fieldLink RX2 31 "RewindBox$Machine" "back" "I", .fieldLink RX2 34 "RewindBox$Machine" "open" "Z", .static yX5_placeOf, .initialized RX5, .code yX5_placeOf cX5_placeOf 1 (some .int)] ++ wsX20)
def wsX2_perform_r1 : List Cond := [Cond.fieldLink RX2 15 "RewindBox$Machine" "memory" "[I", Cond.fieldLink RX2 27 "RewindBox$Machine" "pc" "I", Cond.fieldLink RX2 9 "RewindBox$Machine" "registers" "[I", Cond.fieldLink RX2 34 "RewindBox$Machine" "open" "Z", Cond.methodLink RX2 55 yX2_fieldA, Cond.static yX2_fieldA, Cond.initialized RX2, Cond.code yX2_fieldA cX2_fieldA 1 (some .int), Cond.static yX5_placeOf, Cond.initialized RX5, Cond.code yX5_placeOf cX5_placeOf 1 (some .int), Cond.methodLink RX2 61 yX2_fieldB, Cond.static yX2_fieldB, Cond.code yX2_fieldB cX2_fieldB 1 (some .int), Cond.methodLink RX2 64 yX2_fieldC, Cond.static yX2_fieldC, Cond.code yX2_fieldC cX2_fieldC 1 (some .int), Cond.methodLink RX2 67 yX2_compute, Cond.static yX2_compute, Cond.code yX2_compute cX2_compute 3 (some .int), Cond.methodLink RX2 71 yX2_signedHalf, Cond.static yX2_signedHalf, Cond.code yX2_signedHalf cX2_signedHalf 1 (some .int), Cond.methodLink RX2 48 yX2_target]
def wsX2_perform_r2 : List Cond := [Cond.instanceMethod yX2_target, Cond.selects RX2 yX2_target yX2_target, Cond.code yX2_target cX2_target 2 (some .int), Cond.methodLink RX2 86 yX2_signedByte, Cond.static yX2_signedByte, Cond.code yX2_signedByte cX2_signedByte 1 (some .int), Cond.methodLink RX2 74 yX2_store, Cond.instanceMethod yX2_store, Cond.selects RX2 yX2_store yX2_store, Cond.code yX2_store cX2_store 3 none, Cond.fieldLink RX2 41 "RewindBox$Machine" "written" "I", Cond.methodLink RX2 52 yX2_pageBit, Cond.static yX2_pageBit, Cond.code yX2_pageBit cX2_pageBit 1 (some .int), Cond.methodLink RX2 78 yX2_putOut, Cond.instanceMethod yX2_putOut, Cond.selects RX2 yX2_putOut yX2_putOut, Cond.code yX2_putOut cX2_putOut 2 none, Cond.fieldLink RX2 38 "RewindBox$Machine" "outCount" "I", Cond.fieldLink RX2 18 "RewindBox$Machine" "keptOuts" "[I", Cond.methodLink RX2 82 yX2_jump, Cond.instanceMethod yX2_jump, Cond.selects RX2 yX2_jump yX2_jump, Cond.code yX2_jump cX2_jump 4 none]
def wsX2_perform_r3 : List Cond := [Cond.fieldLink RX2 31 "RewindBox$Machine" "back" "I"]
def wsX2_perform : List Cond := .code yX2_perform cX2_perform 6 none :: ((wsX2_perform_r1 ++ (wsX2_perform_r2 ++ wsX2_perform_r3)) ++ wsX20)
def wsX3_init : List Cond := .code yX3_init cX3_init 1 none :: ([.methodLink RX3 3 objectInit, .instanceMethod objectInit, .code objectInit ⟨#[0xb1]⟩ 1 none, .arrayClass .int, .fieldLink RX3 9 "RewindBox$Snapshot" "registers" "[I"] ++ wsX30)
def wsJ6_bitCount_0f7a4 : List Cond := .code yJ6_bitCount_0f7a4 cJ6_bitCount_0f7a4 1 (some .int) :: ([.constant RJ6 265 (1431655765), .constant RJ6 266 (858993459), .constant RJ6 267 (252645135)])
def wsX3_pageCount : List Cond := .code yX3_pageCount cX3_pageCount 1 (some .int) :: ([.fieldLink RX3 15 "RewindBox$Snapshot" "written" "I", .methodLink RX3 19 yJ6_bitCount_0f7a4, .static yJ6_bitCount_0f7a4, .initialized RJ6, .code yJ6_bitCount_0f7a4 cJ6_bitCount_0f7a4 1 (some .int), .constant RJ6 265 (1431655765), .constant RJ6 266 (858993459), .constant RJ6 267 (252645135)] ++ wsX30)
def wsX3_hasPage : List Cond := .code yX3_hasPage cX3_hasPage 2 (some .boolean) :: ([.fieldLink RX3 15 "RewindBox$Snapshot" "written" "I"] ++ wsX30)
def wsX3_takeFrom : List Cond := .code yX3_takeFrom cX3_takeFrom 2 none :: ([.fieldLink RX3 25 "RewindBox$Machine" "registers" "[I", .fieldLink RX3 9 "RewindBox$Snapshot" "registers" "[I", .methodLink RX3 28 arraycopyName, .native arraycopyName, .static arraycopyName, .initialized "java/lang/System", .fieldLink RX3 34 "RewindBox$Machine" "pc" "I", .fieldLink RX3 37 "RewindBox$Snapshot" "pc" "I", .fieldLink RX3 38 "RewindBox$Machine" "back" "I", .fieldLink RX3 41 "RewindBox$Snapshot" "back" "I", .fieldLink RX3 42 "RewindBox$Machine" "open" "Z", .fieldLink RX3 46 "RewindBox$Snapshot" "open" "Z", .fieldLink RX3 47 "RewindBox$Machine" "outCount" "I", .fieldLink RX3 50 "RewindBox$Snapshot" "outCount" "I", .fieldLink RX3 51 "RewindBox$Machine" "written" "I", .fieldLink RX3 15 "RewindBox$Snapshot" "written" "I"] ++ wsX20 ++ wsX30)
def wsX3_giveBackTo : List Cond := .code yX3_giveBackTo cX3_giveBackTo 2 none :: ([.fieldLink RX3 9 "RewindBox$Snapshot" "registers" "[I", .fieldLink RX3 25 "RewindBox$Machine" "registers" "[I", .methodLink RX3 28 arraycopyName, .native arraycopyName, .static arraycopyName, .initialized "java/lang/System", .fieldLink RX3 37 "RewindBox$Snapshot" "pc" "I", .fieldLink RX3 34 "RewindBox$Machine" "pc" "I", .fieldLink RX3 41 "RewindBox$Snapshot" "back" "I", .fieldLink RX3 38 "RewindBox$Machine" "back" "I", .fieldLink RX3 46 "RewindBox$Snapshot" "open" "Z", .fieldLink RX3 42 "RewindBox$Machine" "open" "Z", .fieldLink RX3 50 "RewindBox$Snapshot" "outCount" "I", .fieldLink RX3 47 "RewindBox$Machine" "outCount" "I", .fieldLink RX3 51 "RewindBox$Machine" "written" "I"] ++ wsX30 ++ wsX20)
def wsX4_init : List Cond := .code yX4_init cX4_init 2 none :: ([.methodLink RX4 3 objectInit, .instanceMethod objectInit, .code objectInit ⟨#[0xb1]⟩ 1 none, .arrayClass .int, .fieldLink RX4 9 "RewindBox$Snapshots" "firstMemory" "[I", .fieldLink RX4 15 "RewindBox$Snapshots" "pageWords" "[I", .classLink RX4 18 RX3, .fieldLink RX4 20 "RewindBox$Snapshots" "row" "[LRewindBox$Snapshot;", .instantiable RX3 7, .initialized RX3, .methodLink RX4 24 yX3_init, .instanceMethod yX3_init, .code yX3_init cX3_init 1 none, .methodLink RX3 3 objectInit, .fieldLink RX3 9 "RewindBox$Snapshot" "registers" "[I"] ++ wsX40 ++ wsX30)
def wsX4_add_r1 : List Cond := [Cond.fieldLink RX4 20 "RewindBox$Snapshots" "row" "[LRewindBox$Snapshot;", Cond.fieldLink RX4 36 "RewindBox$Snapshots" "count" "I", Cond.fieldLink RX4 40 "RewindBox$Snapshots" "pages" "I", Cond.fieldLink RX4 56 "RewindBox$Snapshot" "firstPage" "I", Cond.fieldLink RX4 25 "RewindBox$Machine" "memory" "[I", Cond.fieldLink RX4 15 "RewindBox$Snapshots" "pageWords" "[I", Cond.methodLink RX4 30 arraycopyName, Cond.native arraycopyName, Cond.static arraycopyName, Cond.initialized "java/lang/System", Cond.methodLink RX4 53 yX3_takeFrom, Cond.instanceMethod yX3_takeFrom, Cond.selects RX3 yX3_takeFrom yX3_takeFrom, Cond.initialized RX3, Cond.code yX3_takeFrom cX3_takeFrom 2 none, Cond.fieldLink RX3 25 "RewindBox$Machine" "registers" "[I", Cond.fieldLink RX3 9 "RewindBox$Snapshot" "registers" "[I", Cond.methodLink RX3 28 arraycopyName, Cond.fieldLink RX3 34 "RewindBox$Machine" "pc" "I", Cond.fieldLink RX3 37 "RewindBox$Snapshot" "pc" "I", Cond.fieldLink RX3 38 "RewindBox$Machine" "back" "I", Cond.fieldLink RX3 41 "RewindBox$Snapshot" "back" "I", Cond.fieldLink RX3 42 "RewindBox$Machine" "open" "Z", Cond.fieldLink RX3 46 "RewindBox$Snapshot" "open" "Z"]
def wsX4_add_r2 : List Cond := [Cond.fieldLink RX3 47 "RewindBox$Machine" "outCount" "I", Cond.fieldLink RX3 50 "RewindBox$Snapshot" "outCount" "I", Cond.fieldLink RX3 51 "RewindBox$Machine" "written" "I", Cond.fieldLink RX3 15 "RewindBox$Snapshot" "written" "I", Cond.methodLink RX4 59 yX3_hasPage, Cond.instanceMethod yX3_hasPage, Cond.selects RX3 yX3_hasPage yX3_hasPage, Cond.code yX3_hasPage cX3_hasPage 2 (some .boolean)]
def wsX4_add : List Cond := .code yX4_add cX4_add 4 none :: ((wsX4_add_r1 ++ wsX4_add_r2) ++ wsX40 ++ wsX30 ++ wsX20)
def wsX4_begin_r1 : List Cond := [Cond.fieldLink RX4 25 "RewindBox$Machine" "memory" "[I", Cond.fieldLink RX4 9 "RewindBox$Snapshots" "firstMemory" "[I", Cond.methodLink RX4 30 arraycopyName, Cond.native arraycopyName, Cond.static arraycopyName, Cond.initialized "java/lang/System", Cond.fieldLink RX4 36 "RewindBox$Snapshots" "count" "I", Cond.fieldLink RX4 40 "RewindBox$Snapshots" "pages" "I", Cond.methodLink RX4 43 yX4_add, Cond.instanceMethod yX4_add, Cond.selects RX4 yX4_add yX4_add, Cond.initialized RX4, Cond.code yX4_add cX4_add 4 none, Cond.fieldLink RX4 20 "RewindBox$Snapshots" "row" "[LRewindBox$Snapshot;", Cond.fieldLink RX4 56 "RewindBox$Snapshot" "firstPage" "I", Cond.fieldLink RX4 15 "RewindBox$Snapshots" "pageWords" "[I", Cond.methodLink RX4 53 yX3_takeFrom, Cond.instanceMethod yX3_takeFrom, Cond.selects RX3 yX3_takeFrom yX3_takeFrom, Cond.initialized RX3, Cond.code yX3_takeFrom cX3_takeFrom 2 none, Cond.fieldLink RX3 25 "RewindBox$Machine" "registers" "[I", Cond.fieldLink RX3 9 "RewindBox$Snapshot" "registers" "[I", Cond.methodLink RX3 28 arraycopyName]
def wsX4_begin_r2 : List Cond := [Cond.fieldLink RX3 34 "RewindBox$Machine" "pc" "I", Cond.fieldLink RX3 37 "RewindBox$Snapshot" "pc" "I", Cond.fieldLink RX3 38 "RewindBox$Machine" "back" "I", Cond.fieldLink RX3 41 "RewindBox$Snapshot" "back" "I", Cond.fieldLink RX3 42 "RewindBox$Machine" "open" "Z", Cond.fieldLink RX3 46 "RewindBox$Snapshot" "open" "Z", Cond.fieldLink RX3 47 "RewindBox$Machine" "outCount" "I", Cond.fieldLink RX3 50 "RewindBox$Snapshot" "outCount" "I", Cond.fieldLink RX3 51 "RewindBox$Machine" "written" "I", Cond.fieldLink RX3 15 "RewindBox$Snapshot" "written" "I", Cond.methodLink RX4 59 yX3_hasPage, Cond.instanceMethod yX3_hasPage, Cond.selects RX3 yX3_hasPage yX3_hasPage, Cond.code yX3_hasPage cX3_hasPage 2 (some .boolean)]
def wsX4_begin : List Cond := .code yX4_begin cX4_begin 2 none :: ((wsX4_begin_r1 ++ wsX4_begin_r2) ++ wsX20 ++ wsX40 ++ wsX30)
def wsX4_hasRoomFor : List Cond := .code yX4_hasRoomFor cX4_hasRoomFor 2 (some .boolean) :: ([.fieldLink RX4 36 "RewindBox$Snapshots" "count" "I", .fieldLink RX4 40 "RewindBox$Snapshots" "pages" "I", .methodLink RX4 47 yJ6_bitCount_0f7a4, .static yJ6_bitCount_0f7a4, .initialized RJ6, .code yJ6_bitCount_0f7a4 cJ6_bitCount_0f7a4 1 (some .int), .constant RJ6 265 (1431655765), .constant RJ6 266 (858993459), .constant RJ6 267 (252645135)] ++ wsX40)
def wsX4_keepFirst : List Cond := .code yX4_keepFirst cX4_keepFirst 3 none :: ([.fieldLink RX4 20 "RewindBox$Snapshots" "row" "[LRewindBox$Snapshot;", .fieldLink RX4 36 "RewindBox$Snapshots" "count" "I", .fieldLink RX4 56 "RewindBox$Snapshot" "firstPage" "I", .fieldLink RX4 40 "RewindBox$Snapshots" "pages" "I", .methodLink RX4 63 yX3_pageCount, .instanceMethod yX3_pageCount, .selects RX3 yX3_pageCount yX3_pageCount, .initialized RX3, .code yX3_pageCount cX3_pageCount 1 (some .int), .fieldLink RX3 15 "RewindBox$Snapshot" "written" "I", .methodLink RX3 19 yJ6_bitCount_0f7a4, .static yJ6_bitCount_0f7a4, .initialized RJ6, .code yJ6_bitCount_0f7a4 cJ6_bitCount_0f7a4 1 (some .int), .constant RJ6 265 (1431655765), .constant RJ6 266 (858993459), .constant RJ6 267 (252645135)] ++ wsX40 ++ wsX30)
def wsX4_layPages : List Cond := .code yX4_layPages cX4_layPages 5 none :: ([.fieldLink RX4 56 "RewindBox$Snapshot" "firstPage" "I", .fieldLink RX4 15 "RewindBox$Snapshots" "pageWords" "[I", .methodLink RX4 30 arraycopyName, .native arraycopyName, .static arraycopyName, .initialized "java/lang/System", .methodLink RX4 59 yX3_hasPage, .instanceMethod yX3_hasPage, .selects RX3 yX3_hasPage yX3_hasPage, .initialized RX3, .code yX3_hasPage cX3_hasPage 2 (some .boolean), .fieldLink RX3 15 "RewindBox$Snapshot" "written" "I"] ++ wsX30 ++ wsX40)
def wsX4_restore_r1 : List Cond := [Cond.fieldLink RX4 9 "RewindBox$Snapshots" "firstMemory" "[I", Cond.fieldLink RX4 25 "RewindBox$Machine" "memory" "[I", Cond.methodLink RX4 30 arraycopyName, Cond.native arraycopyName, Cond.static arraycopyName, Cond.initialized "java/lang/System", Cond.fieldLink RX4 20 "RewindBox$Snapshots" "row" "[LRewindBox$Snapshot;", Cond.methodLink RX4 67 yX4_layPages, Cond.instanceMethod yX4_layPages, Cond.selects RX4 yX4_layPages yX4_layPages, Cond.initialized RX4, Cond.code yX4_layPages cX4_layPages 5 none, Cond.fieldLink RX4 56 "RewindBox$Snapshot" "firstPage" "I", Cond.fieldLink RX4 15 "RewindBox$Snapshots" "pageWords" "[I", Cond.methodLink RX4 59 yX3_hasPage, Cond.instanceMethod yX3_hasPage, Cond.selects RX3 yX3_hasPage yX3_hasPage, Cond.initialized RX3, Cond.code yX3_hasPage cX3_hasPage 2 (some .boolean), Cond.fieldLink RX3 15 "RewindBox$Snapshot" "written" "I", Cond.methodLink RX4 71 yX3_giveBackTo, Cond.instanceMethod yX3_giveBackTo, Cond.selects RX3 yX3_giveBackTo yX3_giveBackTo, Cond.code yX3_giveBackTo cX3_giveBackTo 2 none]
def wsX4_restore_r2 : List Cond := [Cond.fieldLink RX3 9 "RewindBox$Snapshot" "registers" "[I", Cond.fieldLink RX3 25 "RewindBox$Machine" "registers" "[I", Cond.methodLink RX3 28 arraycopyName, Cond.fieldLink RX3 37 "RewindBox$Snapshot" "pc" "I", Cond.fieldLink RX3 34 "RewindBox$Machine" "pc" "I", Cond.fieldLink RX3 41 "RewindBox$Snapshot" "back" "I", Cond.fieldLink RX3 38 "RewindBox$Machine" "back" "I", Cond.fieldLink RX3 46 "RewindBox$Snapshot" "open" "Z", Cond.fieldLink RX3 42 "RewindBox$Machine" "open" "Z", Cond.fieldLink RX3 50 "RewindBox$Snapshot" "outCount" "I", Cond.fieldLink RX3 47 "RewindBox$Machine" "outCount" "I", Cond.fieldLink RX3 51 "RewindBox$Machine" "written" "I"]
def wsX4_restore : List Cond := .code yX4_restore cX4_restore 4 none :: ((wsX4_restore_r1 ++ wsX4_restore_r2) ++ wsX40 ++ wsX20 ++ wsX30)
def wsX5_init_r1 : List Cond := [Cond.methodLink RX5 3 objectInit, Cond.instanceMethod objectInit, Cond.code objectInit ⟨#[0xb1]⟩ 1 none, Cond.methodLink RX5 9 Lib.Math.min.name, Cond.static Lib.Math.min.name, Cond.initialized "java/lang/Math", Cond.code Lib.Math.min.name Lib.Math.min.code 2 (some .int), Cond.methodLink RX5 15 Lib.Math.max.name, Cond.static Lib.Math.max.name, Cond.code Lib.Math.max.name Lib.Math.max.code 2 (some .int), Cond.fieldLink RX5 18 "RewindBox" "interval" "I", Cond.classLink RX5 22 RX2, Cond.instantiable RX2 8, Cond.initialized RX2, Cond.fieldLink RX5 25 "RewindBox" "machine" "LRewindBox$Machine;", Cond.classLink RX5 29 RX0, Cond.instantiable RX0 3, Cond.initialized RX0, Cond.fieldLink RX5 32 "RewindBox" "inputs" "LRewindBox$Inputs;", Cond.classLink RX5 36 RX1, Cond.instantiable RX1 4, Cond.initialized RX1, Cond.fieldLink RX5 39 "RewindBox" "entries" "LRewindBox$Log;", Cond.classLink RX5 43 RX4]
def wsX5_init_r2 : List Cond := [Cond.instantiable RX4 5, Cond.initialized RX4, Cond.fieldLink RX5 46 "RewindBox" "snapshots" "LRewindBox$Snapshots;", Cond.methodLink RX5 24 yX2_init, Cond.instanceMethod yX2_init, Cond.code yX2_init cX2_init 1 none, Cond.methodLink RX2 3 objectInit, Cond.arrayClass .int, Cond.fieldLink RX2 9 "RewindBox$Machine" "registers" "[I", Cond.fieldLink RX2 15 "RewindBox$Machine" "memory" "[I", Cond.fieldLink RX2 18 "RewindBox$Machine" "keptOuts" "[I", Cond.methodLink RX5 31 yX0_init, Cond.instanceMethod yX0_init, Cond.code yX0_init cX0_init 1 none, Cond.methodLink RX0 3 objectInit, Cond.fieldLink RX0 9 "RewindBox$Inputs" "values" "[I", Cond.methodLink RX5 38 yX1_init, Cond.instanceMethod yX1_init, Cond.code yX1_init cX1_init 1 none, Cond.methodLink RX1 3 objectInit, Cond.fieldLink RX1 9 "RewindBox$Log" "positions" "[I", Cond.fieldLink RX1 15 "RewindBox$Log" "kinds" "[I", Cond.fieldLink RX1 18 "RewindBox$Log" "values" "[I", Cond.methodLink RX5 45 yX4_init]
def wsX5_init_r3 : List Cond := [Cond.instanceMethod yX4_init, Cond.code yX4_init cX4_init 2 none, Cond.methodLink RX4 3 objectInit, Cond.fieldLink RX4 9 "RewindBox$Snapshots" "firstMemory" "[I", Cond.fieldLink RX4 15 "RewindBox$Snapshots" "pageWords" "[I", Cond.classLink RX4 18 RX3, Cond.fieldLink RX4 20 "RewindBox$Snapshots" "row" "[LRewindBox$Snapshot;", Cond.instantiable RX3 7, Cond.initialized RX3, Cond.methodLink RX4 24 yX3_init, Cond.instanceMethod yX3_init, Cond.code yX3_init cX3_init 1 none, Cond.methodLink RX3 3 objectInit, Cond.fieldLink RX3 9 "RewindBox$Snapshot" "registers" "[I"]
def wsX5_init : List Cond := .code yX5_init cX5_init 2 none :: ((wsX5_init_r1 ++ (wsX5_init_r2 ++ wsX5_init_r3)) ++ wsX50 ++ wsX20 ++ wsX00 ++ wsX10 ++ wsX40 ++ wsX30)
def wsX5_isPlace : List Cond := .code yX5_isPlace cX5_isPlace 1 (some .boolean) :: ([])
def wsX5_poke : List Cond := .code yX5_poke cX5_poke 3 (some .boolean) :: ([.fieldLink RX5 50 "RewindBox" "recording" "Z", .fieldLink RX5 25 "RewindBox" "machine" "LRewindBox$Machine;", .fieldLink RX5 58 "RewindBox$Machine" "memory" "[I", .methodLink RX5 54 yX5_isPlace, .static yX5_isPlace, .initialized RX5, .code yX5_isPlace cX5_isPlace 1 (some .boolean)] ++ wsX50 ++ wsX20)
def wsX5_start_r1 : List Cond := [Cond.fieldLink RX5 25 "RewindBox" "machine" "LRewindBox$Machine;", Cond.fieldLink RX5 32 "RewindBox" "inputs" "LRewindBox$Inputs;", Cond.fieldLink RX5 39 "RewindBox" "entries" "LRewindBox$Log;", Cond.fieldLink RX5 68 "RewindBox$Log" "count" "I", Cond.fieldLink RX5 46 "RewindBox" "snapshots" "LRewindBox$Snapshots;", Cond.fieldLink RX5 50 "RewindBox" "recording" "Z", Cond.fieldLink RX5 75 "RewindBox" "ringCame" "Z", Cond.fieldLink RX5 78 "RewindBox" "now" "I", Cond.fieldLink RX5 81 "RewindBox" "end" "I", Cond.methodLink RX5 62 yX2_reset, Cond.instanceMethod yX2_reset, Cond.selects RX2 yX2_reset yX2_reset, Cond.initialized RX2, Cond.code yX2_reset cX2_reset 1 none, Cond.fieldLink RX2 9 "RewindBox$Machine" "registers" "[I", Cond.fieldLink RX2 27 "RewindBox$Machine" "pc" "I", Cond.fieldLink RX2 31 "RewindBox$Machine" "back" "I", Cond.fieldLink RX2 34 "RewindBox$Machine" "open" "Z", Cond.fieldLink RX2 38 "RewindBox$Machine" "outCount" "I", Cond.fieldLink RX2 41 "RewindBox$Machine" "written" "I", Cond.methodLink RX2 21 yJ7_fill_53178, Cond.static yJ7_fill_53178, Cond.initialized RJ7, Cond.code yJ7_fill_53178 cJ7_fill_53178 4 none]
def wsX5_start_r2 : List Cond := [Cond.methodLink RX5 65 yX0_clear, Cond.instanceMethod yX0_clear, Cond.selects RX0 yX0_clear yX0_clear, Cond.initialized RX0, Cond.code yX0_clear cX0_clear 1 none, Cond.fieldLink RX0 15 "RewindBox$Inputs" "first" "I", Cond.fieldLink RX0 19 "RewindBox$Inputs" "count" "I", Cond.methodLink RX5 71 yX4_begin, Cond.instanceMethod yX4_begin, Cond.selects RX4 yX4_begin yX4_begin, Cond.initialized RX4, Cond.code yX4_begin cX4_begin 2 none, Cond.fieldLink RX4 25 "RewindBox$Machine" "memory" "[I", Cond.fieldLink RX4 9 "RewindBox$Snapshots" "firstMemory" "[I", Cond.methodLink RX4 30 arraycopyName, Cond.native arraycopyName, Cond.static arraycopyName, Cond.initialized "java/lang/System", Cond.fieldLink RX4 36 "RewindBox$Snapshots" "count" "I", Cond.fieldLink RX4 40 "RewindBox$Snapshots" "pages" "I", Cond.methodLink RX4 43 yX4_add, Cond.instanceMethod yX4_add, Cond.selects RX4 yX4_add yX4_add, Cond.code yX4_add cX4_add 4 none]
def wsX5_start_r3 : List Cond := [Cond.fieldLink RX4 20 "RewindBox$Snapshots" "row" "[LRewindBox$Snapshot;", Cond.fieldLink RX4 56 "RewindBox$Snapshot" "firstPage" "I", Cond.fieldLink RX4 15 "RewindBox$Snapshots" "pageWords" "[I", Cond.methodLink RX4 53 yX3_takeFrom, Cond.instanceMethod yX3_takeFrom, Cond.selects RX3 yX3_takeFrom yX3_takeFrom, Cond.initialized RX3, Cond.code yX3_takeFrom cX3_takeFrom 2 none, Cond.fieldLink RX3 25 "RewindBox$Machine" "registers" "[I", Cond.fieldLink RX3 9 "RewindBox$Snapshot" "registers" "[I", Cond.methodLink RX3 28 arraycopyName, Cond.fieldLink RX3 34 "RewindBox$Machine" "pc" "I", Cond.fieldLink RX3 37 "RewindBox$Snapshot" "pc" "I", Cond.fieldLink RX3 38 "RewindBox$Machine" "back" "I", Cond.fieldLink RX3 41 "RewindBox$Snapshot" "back" "I", Cond.fieldLink RX3 42 "RewindBox$Machine" "open" "Z", Cond.fieldLink RX3 46 "RewindBox$Snapshot" "open" "Z", Cond.fieldLink RX3 47 "RewindBox$Machine" "outCount" "I", Cond.fieldLink RX3 50 "RewindBox$Snapshot" "outCount" "I", Cond.fieldLink RX3 51 "RewindBox$Machine" "written" "I", Cond.fieldLink RX3 15 "RewindBox$Snapshot" "written" "I", Cond.methodLink RX4 59 yX3_hasPage, Cond.instanceMethod yX3_hasPage, Cond.selects RX3 yX3_hasPage yX3_hasPage]
def wsX5_start_r4 : List Cond := [Cond.code yX3_hasPage cX3_hasPage 2 (some .boolean)]
def wsX5_start : List Cond := .code yX5_start cX5_start 1 none :: ((wsX5_start_r1 ++ (wsX5_start_r2 ++ (wsX5_start_r3 ++ wsX5_start_r4))) ++ wsX50 ++ wsX10 ++ wsX20 ++ wsX00 ++ wsX40 ++ wsX30)
def wsX5_stop : List Cond := .code yX5_stop cX5_stop 1 none :: ([.fieldLink RX5 50 "RewindBox" "recording" "Z"] ++ wsX50)
def wsX5_give : List Cond := .code yX5_give cX5_give 2 (some .int) :: ([.fieldLink RX5 50 "RewindBox" "recording" "Z", .fieldLink RX5 32 "RewindBox" "inputs" "LRewindBox$Inputs;", .fieldLink RX5 84 "RewindBox$Inputs" "count" "I", .methodLink RX5 85 yX0_add, .instanceMethod yX0_add, .selects RX0 yX0_add yX0_add, .initialized RX0, .code yX0_add cX0_add 2 none, .fieldLink RX0 9 "RewindBox$Inputs" "values" "[I", .fieldLink RX0 15 "RewindBox$Inputs" "first" "I", .fieldLink RX0 19 "RewindBox$Inputs" "count" "I"] ++ wsX50 ++ wsX00)
def wsX5_ring : List Cond := .code yX5_ring cX5_ring 1 (some .boolean) :: ([.fieldLink RX5 50 "RewindBox" "recording" "Z", .fieldLink RX5 75 "RewindBox" "ringCame" "Z"] ++ wsX50)
def wsX5_advance_r1 : List Cond := [Cond.fieldLink RX5 25 "RewindBox" "machine" "LRewindBox$Machine;", Cond.fieldLink RX5 78 "RewindBox" "now" "I", Cond.fieldLink RX5 81 "RewindBox" "end" "I", Cond.fieldLink RX5 18 "RewindBox" "interval" "I", Cond.fieldLink RX5 46 "RewindBox" "snapshots" "LRewindBox$Snapshots;", Cond.fieldLink RX5 163 "RewindBox$Machine" "written" "I", Cond.methodLink RX5 182 yX2_takeRing, Cond.instanceMethod yX2_takeRing, Cond.selects RX2 yX2_takeRing yX2_takeRing, Cond.initialized RX2, Cond.code yX2_takeRing cX2_takeRing 1 none, Cond.fieldLink RX2 27 "RewindBox$Machine" "pc" "I", Cond.fieldLink RX2 31 "RewindBox$Machine" "back" "I", Cond.fieldLink RX2 34 "RewindBox$Machine" "open" "Z", Cond.methodLink RX5 185 yX2_perform, Cond.instanceMethod yX2_perform, Cond.selects RX2 yX2_perform yX2_perform, Cond.code yX2_perform cX2_perform 6 none, Cond.fieldLink RX2 15 "RewindBox$Machine" "memory" "[I", Cond.fieldLink RX2 9 "RewindBox$Machine" "registers" "[I", Cond.methodLink RX2 55 yX2_fieldA, Cond.static yX2_fieldA, Cond.code yX2_fieldA cX2_fieldA 1 (some .int), Cond.static yX5_placeOf]
def wsX5_advance_r2 : List Cond := [Cond.initialized RX5, Cond.code yX5_placeOf cX5_placeOf 1 (some .int), Cond.methodLink RX2 61 yX2_fieldB, Cond.static yX2_fieldB, Cond.code yX2_fieldB cX2_fieldB 1 (some .int), Cond.methodLink RX2 64 yX2_fieldC, Cond.static yX2_fieldC, Cond.code yX2_fieldC cX2_fieldC 1 (some .int), Cond.methodLink RX2 67 yX2_compute, Cond.static yX2_compute, Cond.code yX2_compute cX2_compute 3 (some .int), Cond.methodLink RX2 71 yX2_signedHalf, Cond.static yX2_signedHalf, Cond.code yX2_signedHalf cX2_signedHalf 1 (some .int), Cond.methodLink RX2 48 yX2_target, Cond.instanceMethod yX2_target, Cond.selects RX2 yX2_target yX2_target, Cond.code yX2_target cX2_target 2 (some .int), Cond.methodLink RX2 86 yX2_signedByte, Cond.static yX2_signedByte, Cond.code yX2_signedByte cX2_signedByte 1 (some .int), Cond.methodLink RX2 74 yX2_store, Cond.instanceMethod yX2_store, Cond.selects RX2 yX2_store yX2_store]
def wsX5_advance_r3 : List Cond := [Cond.code yX2_store cX2_store 3 none, Cond.fieldLink RX2 41 "RewindBox$Machine" "written" "I", Cond.methodLink RX2 52 yX2_pageBit, Cond.static yX2_pageBit, Cond.code yX2_pageBit cX2_pageBit 1 (some .int), Cond.methodLink RX2 78 yX2_putOut, Cond.instanceMethod yX2_putOut, Cond.selects RX2 yX2_putOut yX2_putOut, Cond.code yX2_putOut cX2_putOut 2 none, Cond.fieldLink RX2 38 "RewindBox$Machine" "outCount" "I", Cond.fieldLink RX2 18 "RewindBox$Machine" "keptOuts" "[I", Cond.methodLink RX2 82 yX2_jump, Cond.instanceMethod yX2_jump, Cond.selects RX2 yX2_jump yX2_jump, Cond.code yX2_jump cX2_jump 4 none, Cond.methodLink RX5 188 yX4_add, Cond.instanceMethod yX4_add, Cond.selects RX4 yX4_add yX4_add, Cond.initialized RX4, Cond.code yX4_add cX4_add 4 none, Cond.fieldLink RX4 20 "RewindBox$Snapshots" "row" "[LRewindBox$Snapshot;", Cond.fieldLink RX4 36 "RewindBox$Snapshots" "count" "I", Cond.fieldLink RX4 40 "RewindBox$Snapshots" "pages" "I", Cond.fieldLink RX4 56 "RewindBox$Snapshot" "firstPage" "I"]
def wsX5_advance_r4 : List Cond := [Cond.fieldLink RX4 25 "RewindBox$Machine" "memory" "[I", Cond.fieldLink RX4 15 "RewindBox$Snapshots" "pageWords" "[I", Cond.methodLink RX4 30 arraycopyName, Cond.native arraycopyName, Cond.static arraycopyName, Cond.initialized "java/lang/System", Cond.methodLink RX4 53 yX3_takeFrom, Cond.instanceMethod yX3_takeFrom, Cond.selects RX3 yX3_takeFrom yX3_takeFrom, Cond.initialized RX3, Cond.code yX3_takeFrom cX3_takeFrom 2 none, Cond.fieldLink RX3 25 "RewindBox$Machine" "registers" "[I", Cond.fieldLink RX3 9 "RewindBox$Snapshot" "registers" "[I", Cond.methodLink RX3 28 arraycopyName, Cond.fieldLink RX3 34 "RewindBox$Machine" "pc" "I", Cond.fieldLink RX3 37 "RewindBox$Snapshot" "pc" "I", Cond.fieldLink RX3 38 "RewindBox$Machine" "back" "I", Cond.fieldLink RX3 41 "RewindBox$Snapshot" "back" "I", Cond.fieldLink RX3 42 "RewindBox$Machine" "open" "Z", Cond.fieldLink RX3 46 "RewindBox$Snapshot" "open" "Z", Cond.fieldLink RX3 47 "RewindBox$Machine" "outCount" "I", Cond.fieldLink RX3 50 "RewindBox$Snapshot" "outCount" "I", Cond.fieldLink RX3 51 "RewindBox$Machine" "written" "I", Cond.fieldLink RX3 15 "RewindBox$Snapshot" "written" "I"]
def wsX5_advance_r5 : List Cond := [Cond.methodLink RX4 59 yX3_hasPage, Cond.instanceMethod yX3_hasPage, Cond.selects RX3 yX3_hasPage yX3_hasPage, Cond.code yX3_hasPage cX3_hasPage 2 (some .boolean)]
def wsX5_advance : List Cond := .code yX5_advance cX5_advance 4 none :: ((wsX5_advance_r1 ++ (wsX5_advance_r2 ++ (wsX5_advance_r3 ++ (wsX5_advance_r4 ++ wsX5_advance_r5)))) ++ wsX50 ++ wsX20 ++ wsX40 ++ wsX30)
def wsX5_stepByLog_r1 : List Cond := [Cond.fieldLink RX5 39 "RewindBox" "entries" "LRewindBox$Log;", Cond.fieldLink RX5 78 "RewindBox" "now" "I", Cond.fieldLink RX5 68 "RewindBox$Log" "count" "I", Cond.fieldLink RX5 124 "RewindBox$Log" "positions" "[I", Cond.fieldLink RX5 127 "RewindBox$Log" "kinds" "[I", Cond.fieldLink RX5 130 "RewindBox$Log" "values" "[I", Cond.methodLink RX5 103 yX1_countBefore, Cond.instanceMethod yX1_countBefore, Cond.selects RX1 yX1_countBefore yX1_countBefore, Cond.initialized RX1, Cond.code yX1_countBefore cX1_countBefore 5 (some .int), Cond.fieldLink RX1 21 "RewindBox$Log" "count" "I", Cond.fieldLink RX1 9 "RewindBox$Log" "positions" "[I", Cond.methodLink RX5 178 yX5_advance, Cond.instanceMethod yX5_advance, Cond.selects RX5 yX5_advance yX5_advance, Cond.initialized RX5, Cond.code yX5_advance cX5_advance 4 none, Cond.fieldLink RX5 25 "RewindBox" "machine" "LRewindBox$Machine;", Cond.fieldLink RX5 81 "RewindBox" "end" "I", Cond.fieldLink RX5 18 "RewindBox" "interval" "I", Cond.fieldLink RX5 46 "RewindBox" "snapshots" "LRewindBox$Snapshots;", Cond.fieldLink RX5 163 "RewindBox$Machine" "written" "I", Cond.methodLink RX5 182 yX2_takeRing]
def wsX5_stepByLog_r2 : List Cond := [Cond.instanceMethod yX2_takeRing, Cond.selects RX2 yX2_takeRing yX2_takeRing, Cond.initialized RX2, Cond.code yX2_takeRing cX2_takeRing 1 none, Cond.fieldLink RX2 27 "RewindBox$Machine" "pc" "I", Cond.fieldLink RX2 31 "RewindBox$Machine" "back" "I", Cond.fieldLink RX2 34 "RewindBox$Machine" "open" "Z", Cond.methodLink RX5 185 yX2_perform, Cond.instanceMethod yX2_perform, Cond.selects RX2 yX2_perform yX2_perform, Cond.code yX2_perform cX2_perform 6 none, Cond.fieldLink RX2 15 "RewindBox$Machine" "memory" "[I", Cond.fieldLink RX2 9 "RewindBox$Machine" "registers" "[I", Cond.methodLink RX2 55 yX2_fieldA, Cond.static yX2_fieldA, Cond.code yX2_fieldA cX2_fieldA 1 (some .int), Cond.static yX5_placeOf, Cond.code yX5_placeOf cX5_placeOf 1 (some .int), Cond.methodLink RX2 61 yX2_fieldB, Cond.static yX2_fieldB, Cond.code yX2_fieldB cX2_fieldB 1 (some .int), Cond.methodLink RX2 64 yX2_fieldC, Cond.static yX2_fieldC, Cond.code yX2_fieldC cX2_fieldC 1 (some .int)]
def wsX5_stepByLog_r3 : List Cond := [Cond.methodLink RX2 67 yX2_compute, Cond.static yX2_compute, Cond.code yX2_compute cX2_compute 3 (some .int), Cond.methodLink RX2 71 yX2_signedHalf, Cond.static yX2_signedHalf, Cond.code yX2_signedHalf cX2_signedHalf 1 (some .int), Cond.methodLink RX2 48 yX2_target, Cond.instanceMethod yX2_target, Cond.selects RX2 yX2_target yX2_target, Cond.code yX2_target cX2_target 2 (some .int), Cond.methodLink RX2 86 yX2_signedByte, Cond.static yX2_signedByte, Cond.code yX2_signedByte cX2_signedByte 1 (some .int), Cond.methodLink RX2 74 yX2_store, Cond.instanceMethod yX2_store, Cond.selects RX2 yX2_store yX2_store, Cond.code yX2_store cX2_store 3 none, Cond.fieldLink RX2 41 "RewindBox$Machine" "written" "I", Cond.methodLink RX2 52 yX2_pageBit, Cond.static yX2_pageBit, Cond.code yX2_pageBit cX2_pageBit 1 (some .int), Cond.methodLink RX2 78 yX2_putOut, Cond.instanceMethod yX2_putOut, Cond.selects RX2 yX2_putOut yX2_putOut]
def wsX5_stepByLog_r4 : List Cond := [Cond.code yX2_putOut cX2_putOut 2 none, Cond.fieldLink RX2 38 "RewindBox$Machine" "outCount" "I", Cond.fieldLink RX2 18 "RewindBox$Machine" "keptOuts" "[I", Cond.methodLink RX2 82 yX2_jump, Cond.instanceMethod yX2_jump, Cond.selects RX2 yX2_jump yX2_jump, Cond.code yX2_jump cX2_jump 4 none, Cond.methodLink RX5 188 yX4_add, Cond.instanceMethod yX4_add, Cond.selects RX4 yX4_add yX4_add, Cond.initialized RX4, Cond.code yX4_add cX4_add 4 none, Cond.fieldLink RX4 20 "RewindBox$Snapshots" "row" "[LRewindBox$Snapshot;", Cond.fieldLink RX4 36 "RewindBox$Snapshots" "count" "I", Cond.fieldLink RX4 40 "RewindBox$Snapshots" "pages" "I", Cond.fieldLink RX4 56 "RewindBox$Snapshot" "firstPage" "I", Cond.fieldLink RX4 25 "RewindBox$Machine" "memory" "[I", Cond.fieldLink RX4 15 "RewindBox$Snapshots" "pageWords" "[I", Cond.methodLink RX4 30 arraycopyName, Cond.native arraycopyName, Cond.static arraycopyName, Cond.initialized "java/lang/System", Cond.methodLink RX4 53 yX3_takeFrom, Cond.instanceMethod yX3_takeFrom]
def wsX5_stepByLog_r5 : List Cond := [Cond.selects RX3 yX3_takeFrom yX3_takeFrom, Cond.initialized RX3, Cond.code yX3_takeFrom cX3_takeFrom 2 none, Cond.fieldLink RX3 25 "RewindBox$Machine" "registers" "[I", Cond.fieldLink RX3 9 "RewindBox$Snapshot" "registers" "[I", Cond.methodLink RX3 28 arraycopyName, Cond.fieldLink RX3 34 "RewindBox$Machine" "pc" "I", Cond.fieldLink RX3 37 "RewindBox$Snapshot" "pc" "I", Cond.fieldLink RX3 38 "RewindBox$Machine" "back" "I", Cond.fieldLink RX3 41 "RewindBox$Snapshot" "back" "I", Cond.fieldLink RX3 42 "RewindBox$Machine" "open" "Z", Cond.fieldLink RX3 46 "RewindBox$Snapshot" "open" "Z", Cond.fieldLink RX3 47 "RewindBox$Machine" "outCount" "I", Cond.fieldLink RX3 50 "RewindBox$Snapshot" "outCount" "I", Cond.fieldLink RX3 51 "RewindBox$Machine" "written" "I", Cond.fieldLink RX3 15 "RewindBox$Snapshot" "written" "I", Cond.methodLink RX4 59 yX3_hasPage, Cond.instanceMethod yX3_hasPage, Cond.selects RX3 yX3_hasPage yX3_hasPage, Cond.code yX3_hasPage cX3_hasPage 2 (some .boolean)]
def wsX5_stepByLog : List Cond := .code yX5_stepByLog cX5_stepByLog 2 none :: ((wsX5_stepByLog_r1 ++ (wsX5_stepByLog_r2 ++ (wsX5_stepByLog_r3 ++ (wsX5_stepByLog_r4 ++ wsX5_stepByLog_r5)))) ++ wsX50 ++ wsX10 ++ wsX20 ++ wsX40 ++ wsX30)
def wsX5_nextLiveKind : List Cond := .code yX5_nextLiveKind cX5_nextLiveKind 2 (some .int) :: ([.fieldLink RX5 75 "RewindBox" "ringCame" "Z", .fieldLink RX5 25 "RewindBox" "machine" "LRewindBox$Machine;", .fieldLink RX5 142 "RewindBox$Machine" "open" "Z", .fieldLink RX5 32 "RewindBox" "inputs" "LRewindBox$Inputs;", .fieldLink RX5 84 "RewindBox$Inputs" "count" "I", .methodLink RX5 160 yX2_nextOp, .instanceMethod yX2_nextOp, .selects RX2 yX2_nextOp yX2_nextOp, .initialized RX2, .code yX2_nextOp cX2_nextOp 1 (some .int), .fieldLink RX2 15 "RewindBox$Machine" "memory" "[I", .fieldLink RX2 27 "RewindBox$Machine" "pc" "I"] ++ wsX50 ++ wsX20 ++ wsX00)
def wsX5_isFull_r1 : List Cond := [Cond.fieldLink RX5 39 "RewindBox" "entries" "LRewindBox$Log;", Cond.fieldLink RX5 68 "RewindBox$Log" "count" "I", Cond.fieldLink RX5 81 "RewindBox" "end" "I", Cond.fieldLink RX5 18 "RewindBox" "interval" "I", Cond.fieldLink RX5 25 "RewindBox" "machine" "LRewindBox$Machine;", Cond.fieldLink RX5 163 "RewindBox$Machine" "written" "I", Cond.fieldLink RX5 46 "RewindBox" "snapshots" "LRewindBox$Snapshots;", Cond.methodLink RX5 166 yX2_writtenWithNext, Cond.instanceMethod yX2_writtenWithNext, Cond.selects RX2 yX2_writtenWithNext yX2_writtenWithNext, Cond.initialized RX2, Cond.code yX2_writtenWithNext cX2_writtenWithNext 1 (some .int), Cond.fieldLink RX2 41 "RewindBox$Machine" "written" "I", Cond.fieldLink RX2 15 "RewindBox$Machine" "memory" "[I", Cond.fieldLink RX2 27 "RewindBox$Machine" "pc" "I", Cond.methodLink RX2 44 yX2_nextOp, Cond.instanceMethod yX2_nextOp, Cond.selects RX2 yX2_nextOp yX2_nextOp, Cond.code yX2_nextOp cX2_nextOp 1 (some .int), Cond.methodLink RX2 48 yX2_target, Cond.instanceMethod yX2_target, Cond.selects RX2 yX2_target yX2_target, Cond.code yX2_target cX2_target 2 (some .int), Cond.fieldLink RX2 9 "RewindBox$Machine" "registers" "[I"]
def wsX5_isFull_r2 : List Cond := [Cond.methodLink RX2 61 yX2_fieldB, Cond.static yX2_fieldB, Cond.code yX2_fieldB cX2_fieldB 1 (some .int), Cond.methodLink RX2 86 yX2_signedByte, Cond.static yX2_signedByte, Cond.code yX2_signedByte cX2_signedByte 1 (some .int), Cond.static yX5_placeOf, Cond.initialized RX5, Cond.code yX5_placeOf cX5_placeOf 1 (some .int), Cond.methodLink RX2 52 yX2_pageBit, Cond.static yX2_pageBit, Cond.code yX2_pageBit cX2_pageBit 1 (some .int), Cond.methodLink RX5 169 yX4_hasRoomFor, Cond.instanceMethod yX4_hasRoomFor, Cond.selects RX4 yX4_hasRoomFor yX4_hasRoomFor, Cond.initialized RX4, Cond.code yX4_hasRoomFor cX4_hasRoomFor 2 (some .boolean), Cond.fieldLink RX4 36 "RewindBox$Snapshots" "count" "I", Cond.fieldLink RX4 40 "RewindBox$Snapshots" "pages" "I", Cond.methodLink RX4 47 yJ6_bitCount_0f7a4, Cond.static yJ6_bitCount_0f7a4, Cond.initialized RJ6, Cond.code yJ6_bitCount_0f7a4 cJ6_bitCount_0f7a4 1 (some .int), Cond.constant RJ6 265 (1431655765)]
def wsX5_isFull_r3 : List Cond := [Cond.constant RJ6 266 (858993459), Cond.constant RJ6 267 (252645135)]
def wsX5_isFull : List Cond := .code yX5_isFull cX5_isFull 3 (some .boolean) :: ((wsX5_isFull_r1 ++ (wsX5_isFull_r2 ++ wsX5_isFull_r3)) ++ wsX50 ++ wsX10 ++ wsX20 ++ wsX40)
def wsX5_stepLive_r1 : List Cond := [Cond.fieldLink RX5 75 "RewindBox" "ringCame" "Z", Cond.fieldLink RX5 32 "RewindBox" "inputs" "LRewindBox$Inputs;", Cond.fieldLink RX5 39 "RewindBox" "entries" "LRewindBox$Log;", Cond.fieldLink RX5 78 "RewindBox" "now" "I", Cond.methodLink RX5 172 yX0_take, Cond.instanceMethod yX0_take, Cond.selects RX0 yX0_take yX0_take, Cond.initialized RX0, Cond.code yX0_take cX0_take 2 (some .int), Cond.fieldLink RX0 9 "RewindBox$Inputs" "values" "[I", Cond.fieldLink RX0 15 "RewindBox$Inputs" "first" "I", Cond.fieldLink RX0 19 "RewindBox$Inputs" "count" "I", Cond.methodLink RX5 175 yX1_add, Cond.instanceMethod yX1_add, Cond.selects RX1 yX1_add yX1_add, Cond.initialized RX1, Cond.code yX1_add cX1_add 4 none, Cond.fieldLink RX1 9 "RewindBox$Log" "positions" "[I", Cond.fieldLink RX1 21 "RewindBox$Log" "count" "I", Cond.fieldLink RX1 15 "RewindBox$Log" "kinds" "[I", Cond.fieldLink RX1 18 "RewindBox$Log" "values" "[I", Cond.methodLink RX5 178 yX5_advance, Cond.instanceMethod yX5_advance, Cond.selects RX5 yX5_advance yX5_advance]
def wsX5_stepLive_r2 : List Cond := [Cond.initialized RX5, Cond.code yX5_advance cX5_advance 4 none, Cond.fieldLink RX5 25 "RewindBox" "machine" "LRewindBox$Machine;", Cond.fieldLink RX5 81 "RewindBox" "end" "I", Cond.fieldLink RX5 18 "RewindBox" "interval" "I", Cond.fieldLink RX5 46 "RewindBox" "snapshots" "LRewindBox$Snapshots;", Cond.fieldLink RX5 163 "RewindBox$Machine" "written" "I", Cond.methodLink RX5 182 yX2_takeRing, Cond.instanceMethod yX2_takeRing, Cond.selects RX2 yX2_takeRing yX2_takeRing, Cond.initialized RX2, Cond.code yX2_takeRing cX2_takeRing 1 none, Cond.fieldLink RX2 27 "RewindBox$Machine" "pc" "I", Cond.fieldLink RX2 31 "RewindBox$Machine" "back" "I", Cond.fieldLink RX2 34 "RewindBox$Machine" "open" "Z", Cond.methodLink RX5 185 yX2_perform, Cond.instanceMethod yX2_perform, Cond.selects RX2 yX2_perform yX2_perform, Cond.code yX2_perform cX2_perform 6 none, Cond.fieldLink RX2 15 "RewindBox$Machine" "memory" "[I", Cond.fieldLink RX2 9 "RewindBox$Machine" "registers" "[I", Cond.methodLink RX2 55 yX2_fieldA, Cond.static yX2_fieldA, Cond.code yX2_fieldA cX2_fieldA 1 (some .int)]
def wsX5_stepLive_r3 : List Cond := [Cond.static yX5_placeOf, Cond.code yX5_placeOf cX5_placeOf 1 (some .int), Cond.methodLink RX2 61 yX2_fieldB, Cond.static yX2_fieldB, Cond.code yX2_fieldB cX2_fieldB 1 (some .int), Cond.methodLink RX2 64 yX2_fieldC, Cond.static yX2_fieldC, Cond.code yX2_fieldC cX2_fieldC 1 (some .int), Cond.methodLink RX2 67 yX2_compute, Cond.static yX2_compute, Cond.code yX2_compute cX2_compute 3 (some .int), Cond.methodLink RX2 71 yX2_signedHalf, Cond.static yX2_signedHalf, Cond.code yX2_signedHalf cX2_signedHalf 1 (some .int), Cond.methodLink RX2 48 yX2_target, Cond.instanceMethod yX2_target, Cond.selects RX2 yX2_target yX2_target, Cond.code yX2_target cX2_target 2 (some .int), Cond.methodLink RX2 86 yX2_signedByte, Cond.static yX2_signedByte, Cond.code yX2_signedByte cX2_signedByte 1 (some .int), Cond.methodLink RX2 74 yX2_store, Cond.instanceMethod yX2_store, Cond.selects RX2 yX2_store yX2_store]
def wsX5_stepLive_r4 : List Cond := [Cond.code yX2_store cX2_store 3 none, Cond.fieldLink RX2 41 "RewindBox$Machine" "written" "I", Cond.methodLink RX2 52 yX2_pageBit, Cond.static yX2_pageBit, Cond.code yX2_pageBit cX2_pageBit 1 (some .int), Cond.methodLink RX2 78 yX2_putOut, Cond.instanceMethod yX2_putOut, Cond.selects RX2 yX2_putOut yX2_putOut, Cond.code yX2_putOut cX2_putOut 2 none, Cond.fieldLink RX2 38 "RewindBox$Machine" "outCount" "I", Cond.fieldLink RX2 18 "RewindBox$Machine" "keptOuts" "[I", Cond.methodLink RX2 82 yX2_jump, Cond.instanceMethod yX2_jump, Cond.selects RX2 yX2_jump yX2_jump, Cond.code yX2_jump cX2_jump 4 none, Cond.methodLink RX5 188 yX4_add, Cond.instanceMethod yX4_add, Cond.selects RX4 yX4_add yX4_add, Cond.initialized RX4, Cond.code yX4_add cX4_add 4 none, Cond.fieldLink RX4 20 "RewindBox$Snapshots" "row" "[LRewindBox$Snapshot;", Cond.fieldLink RX4 36 "RewindBox$Snapshots" "count" "I", Cond.fieldLink RX4 40 "RewindBox$Snapshots" "pages" "I", Cond.fieldLink RX4 56 "RewindBox$Snapshot" "firstPage" "I"]
def wsX5_stepLive_r5 : List Cond := [Cond.fieldLink RX4 25 "RewindBox$Machine" "memory" "[I", Cond.fieldLink RX4 15 "RewindBox$Snapshots" "pageWords" "[I", Cond.methodLink RX4 30 arraycopyName, Cond.native arraycopyName, Cond.static arraycopyName, Cond.initialized "java/lang/System", Cond.methodLink RX4 53 yX3_takeFrom, Cond.instanceMethod yX3_takeFrom, Cond.selects RX3 yX3_takeFrom yX3_takeFrom, Cond.initialized RX3, Cond.code yX3_takeFrom cX3_takeFrom 2 none, Cond.fieldLink RX3 25 "RewindBox$Machine" "registers" "[I", Cond.fieldLink RX3 9 "RewindBox$Snapshot" "registers" "[I", Cond.methodLink RX3 28 arraycopyName, Cond.fieldLink RX3 34 "RewindBox$Machine" "pc" "I", Cond.fieldLink RX3 37 "RewindBox$Snapshot" "pc" "I", Cond.fieldLink RX3 38 "RewindBox$Machine" "back" "I", Cond.fieldLink RX3 41 "RewindBox$Snapshot" "back" "I", Cond.fieldLink RX3 42 "RewindBox$Machine" "open" "Z", Cond.fieldLink RX3 46 "RewindBox$Snapshot" "open" "Z", Cond.fieldLink RX3 47 "RewindBox$Machine" "outCount" "I", Cond.fieldLink RX3 50 "RewindBox$Snapshot" "outCount" "I", Cond.fieldLink RX3 51 "RewindBox$Machine" "written" "I", Cond.fieldLink RX3 15 "RewindBox$Snapshot" "written" "I"]
def wsX5_stepLive_r6 : List Cond := [Cond.methodLink RX4 59 yX3_hasPage, Cond.instanceMethod yX3_hasPage, Cond.selects RX3 yX3_hasPage yX3_hasPage, Cond.code yX3_hasPage cX3_hasPage 2 (some .boolean)]
def wsX5_stepLive : List Cond := .code yX5_stepLive cX5_stepLive 3 none :: ((wsX5_stepLive_r1 ++ (wsX5_stepLive_r2 ++ (wsX5_stepLive_r3 ++ (wsX5_stepLive_r4 ++ (wsX5_stepLive_r5 ++ wsX5_stepLive_r6))))) ++ wsX50 ++ wsX00 ++ wsX10 ++ wsX20 ++ wsX40 ++ wsX30)
def wsX5_tryStep_r1 : List Cond := [Cond.fieldLink RX5 78 "RewindBox" "now" "I", Cond.fieldLink RX5 81 "RewindBox" "end" "I", Cond.methodLink RX5 100 yX5_stepByLog, Cond.instanceMethod yX5_stepByLog, Cond.selects RX5 yX5_stepByLog yX5_stepByLog, Cond.initialized RX5, Cond.code yX5_stepByLog cX5_stepByLog 2 none, Cond.fieldLink RX5 39 "RewindBox" "entries" "LRewindBox$Log;", Cond.fieldLink RX5 68 "RewindBox$Log" "count" "I", Cond.fieldLink RX5 124 "RewindBox$Log" "positions" "[I", Cond.fieldLink RX5 127 "RewindBox$Log" "kinds" "[I", Cond.fieldLink RX5 130 "RewindBox$Log" "values" "[I", Cond.methodLink RX5 103 yX1_countBefore, Cond.instanceMethod yX1_countBefore, Cond.selects RX1 yX1_countBefore yX1_countBefore, Cond.initialized RX1, Cond.code yX1_countBefore cX1_countBefore 5 (some .int), Cond.fieldLink RX1 21 "RewindBox$Log" "count" "I", Cond.fieldLink RX1 9 "RewindBox$Log" "positions" "[I", Cond.methodLink RX5 178 yX5_advance, Cond.instanceMethod yX5_advance, Cond.selects RX5 yX5_advance yX5_advance, Cond.code yX5_advance cX5_advance 4 none, Cond.fieldLink RX5 25 "RewindBox" "machine" "LRewindBox$Machine;"]
def wsX5_tryStep_r2 : List Cond := [Cond.fieldLink RX5 18 "RewindBox" "interval" "I", Cond.fieldLink RX5 46 "RewindBox" "snapshots" "LRewindBox$Snapshots;", Cond.fieldLink RX5 163 "RewindBox$Machine" "written" "I", Cond.methodLink RX5 182 yX2_takeRing, Cond.instanceMethod yX2_takeRing, Cond.selects RX2 yX2_takeRing yX2_takeRing, Cond.initialized RX2, Cond.code yX2_takeRing cX2_takeRing 1 none, Cond.fieldLink RX2 27 "RewindBox$Machine" "pc" "I", Cond.fieldLink RX2 31 "RewindBox$Machine" "back" "I", Cond.fieldLink RX2 34 "RewindBox$Machine" "open" "Z", Cond.methodLink RX5 185 yX2_perform, Cond.instanceMethod yX2_perform, Cond.selects RX2 yX2_perform yX2_perform, Cond.code yX2_perform cX2_perform 6 none, Cond.fieldLink RX2 15 "RewindBox$Machine" "memory" "[I", Cond.fieldLink RX2 9 "RewindBox$Machine" "registers" "[I", Cond.methodLink RX2 55 yX2_fieldA, Cond.static yX2_fieldA, Cond.code yX2_fieldA cX2_fieldA 1 (some .int), Cond.static yX5_placeOf, Cond.code yX5_placeOf cX5_placeOf 1 (some .int), Cond.methodLink RX2 61 yX2_fieldB, Cond.static yX2_fieldB]
def wsX5_tryStep_r3 : List Cond := [Cond.code yX2_fieldB cX2_fieldB 1 (some .int), Cond.methodLink RX2 64 yX2_fieldC, Cond.static yX2_fieldC, Cond.code yX2_fieldC cX2_fieldC 1 (some .int), Cond.methodLink RX2 67 yX2_compute, Cond.static yX2_compute, Cond.code yX2_compute cX2_compute 3 (some .int), Cond.methodLink RX2 71 yX2_signedHalf, Cond.static yX2_signedHalf, Cond.code yX2_signedHalf cX2_signedHalf 1 (some .int), Cond.methodLink RX2 48 yX2_target, Cond.instanceMethod yX2_target, Cond.selects RX2 yX2_target yX2_target, Cond.code yX2_target cX2_target 2 (some .int), Cond.methodLink RX2 86 yX2_signedByte, Cond.static yX2_signedByte, Cond.code yX2_signedByte cX2_signedByte 1 (some .int), Cond.methodLink RX2 74 yX2_store, Cond.instanceMethod yX2_store, Cond.selects RX2 yX2_store yX2_store, Cond.code yX2_store cX2_store 3 none, Cond.fieldLink RX2 41 "RewindBox$Machine" "written" "I", Cond.methodLink RX2 52 yX2_pageBit, Cond.static yX2_pageBit]
def wsX5_tryStep_r4 : List Cond := [Cond.code yX2_pageBit cX2_pageBit 1 (some .int), Cond.methodLink RX2 78 yX2_putOut, Cond.instanceMethod yX2_putOut, Cond.selects RX2 yX2_putOut yX2_putOut, Cond.code yX2_putOut cX2_putOut 2 none, Cond.fieldLink RX2 38 "RewindBox$Machine" "outCount" "I", Cond.fieldLink RX2 18 "RewindBox$Machine" "keptOuts" "[I", Cond.methodLink RX2 82 yX2_jump, Cond.instanceMethod yX2_jump, Cond.selects RX2 yX2_jump yX2_jump, Cond.code yX2_jump cX2_jump 4 none, Cond.methodLink RX5 188 yX4_add, Cond.instanceMethod yX4_add, Cond.selects RX4 yX4_add yX4_add, Cond.initialized RX4, Cond.code yX4_add cX4_add 4 none, Cond.fieldLink RX4 20 "RewindBox$Snapshots" "row" "[LRewindBox$Snapshot;", Cond.fieldLink RX4 36 "RewindBox$Snapshots" "count" "I", Cond.fieldLink RX4 40 "RewindBox$Snapshots" "pages" "I", Cond.fieldLink RX4 56 "RewindBox$Snapshot" "firstPage" "I", Cond.fieldLink RX4 25 "RewindBox$Machine" "memory" "[I", Cond.fieldLink RX4 15 "RewindBox$Snapshots" "pageWords" "[I", Cond.methodLink RX4 30 arraycopyName, Cond.native arraycopyName]
def wsX5_tryStep_r5 : List Cond := [Cond.static arraycopyName, Cond.initialized "java/lang/System", Cond.methodLink RX4 53 yX3_takeFrom, Cond.instanceMethod yX3_takeFrom, Cond.selects RX3 yX3_takeFrom yX3_takeFrom, Cond.initialized RX3, Cond.code yX3_takeFrom cX3_takeFrom 2 none, Cond.fieldLink RX3 25 "RewindBox$Machine" "registers" "[I", Cond.fieldLink RX3 9 "RewindBox$Snapshot" "registers" "[I", Cond.methodLink RX3 28 arraycopyName, Cond.fieldLink RX3 34 "RewindBox$Machine" "pc" "I", Cond.fieldLink RX3 37 "RewindBox$Snapshot" "pc" "I", Cond.fieldLink RX3 38 "RewindBox$Machine" "back" "I", Cond.fieldLink RX3 41 "RewindBox$Snapshot" "back" "I", Cond.fieldLink RX3 42 "RewindBox$Machine" "open" "Z", Cond.fieldLink RX3 46 "RewindBox$Snapshot" "open" "Z", Cond.fieldLink RX3 47 "RewindBox$Machine" "outCount" "I", Cond.fieldLink RX3 50 "RewindBox$Snapshot" "outCount" "I", Cond.fieldLink RX3 51 "RewindBox$Machine" "written" "I", Cond.fieldLink RX3 15 "RewindBox$Snapshot" "written" "I", Cond.methodLink RX4 59 yX3_hasPage, Cond.instanceMethod yX3_hasPage, Cond.selects RX3 yX3_hasPage yX3_hasPage, Cond.code yX3_hasPage cX3_hasPage 2 (some .boolean)]
def wsX5_tryStep_r6 : List Cond := [Cond.methodLink RX5 151 yX5_nextLiveKind, Cond.instanceMethod yX5_nextLiveKind, Cond.selects RX5 yX5_nextLiveKind yX5_nextLiveKind, Cond.code yX5_nextLiveKind cX5_nextLiveKind 2 (some .int), Cond.fieldLink RX5 75 "RewindBox" "ringCame" "Z", Cond.fieldLink RX5 142 "RewindBox$Machine" "open" "Z", Cond.fieldLink RX5 32 "RewindBox" "inputs" "LRewindBox$Inputs;", Cond.fieldLink RX5 84 "RewindBox$Inputs" "count" "I", Cond.methodLink RX5 160 yX2_nextOp, Cond.instanceMethod yX2_nextOp, Cond.selects RX2 yX2_nextOp yX2_nextOp, Cond.code yX2_nextOp cX2_nextOp 1 (some .int), Cond.methodLink RX5 154 yX5_isFull, Cond.instanceMethod yX5_isFull, Cond.selects RX5 yX5_isFull yX5_isFull, Cond.code yX5_isFull cX5_isFull 3 (some .boolean), Cond.methodLink RX5 166 yX2_writtenWithNext, Cond.instanceMethod yX2_writtenWithNext, Cond.selects RX2 yX2_writtenWithNext yX2_writtenWithNext, Cond.code yX2_writtenWithNext cX2_writtenWithNext 1 (some .int), Cond.methodLink RX2 44 yX2_nextOp, Cond.methodLink RX5 169 yX4_hasRoomFor, Cond.instanceMethod yX4_hasRoomFor, Cond.selects RX4 yX4_hasRoomFor yX4_hasRoomFor]
def wsX5_tryStep_r7 : List Cond := [Cond.code yX4_hasRoomFor cX4_hasRoomFor 2 (some .boolean), Cond.methodLink RX4 47 yJ6_bitCount_0f7a4, Cond.static yJ6_bitCount_0f7a4, Cond.initialized RJ6, Cond.code yJ6_bitCount_0f7a4 cJ6_bitCount_0f7a4 1 (some .int), Cond.constant RJ6 265 (1431655765), Cond.constant RJ6 266 (858993459), Cond.constant RJ6 267 (252645135), Cond.methodLink RX5 157 yX5_stepLive, Cond.instanceMethod yX5_stepLive, Cond.selects RX5 yX5_stepLive yX5_stepLive, Cond.code yX5_stepLive cX5_stepLive 3 none, Cond.methodLink RX5 172 yX0_take, Cond.instanceMethod yX0_take, Cond.selects RX0 yX0_take yX0_take, Cond.initialized RX0, Cond.code yX0_take cX0_take 2 (some .int), Cond.fieldLink RX0 9 "RewindBox$Inputs" "values" "[I", Cond.fieldLink RX0 15 "RewindBox$Inputs" "first" "I", Cond.fieldLink RX0 19 "RewindBox$Inputs" "count" "I", Cond.methodLink RX5 175 yX1_add, Cond.instanceMethod yX1_add, Cond.selects RX1 yX1_add yX1_add, Cond.code yX1_add cX1_add 4 none]
def wsX5_tryStep_r8 : List Cond := [Cond.fieldLink RX1 15 "RewindBox$Log" "kinds" "[I", Cond.fieldLink RX1 18 "RewindBox$Log" "values" "[I"]
def wsX5_tryStep : List Cond := .code yX5_tryStep cX5_tryStep 2 (some .boolean) :: ((wsX5_tryStep_r1 ++ (wsX5_tryStep_r2 ++ (wsX5_tryStep_r3 ++ (wsX5_tryStep_r4 ++ (wsX5_tryStep_r5 ++ (wsX5_tryStep_r6 ++ (wsX5_tryStep_r7 ++ wsX5_tryStep_r8))))))) ++ wsX50 ++ wsX10 ++ wsX20 ++ wsX40 ++ wsX30 ++ wsX00)
def wsX5_step_r1 : List Cond := [Cond.fieldLink RX5 50 "RewindBox" "recording" "Z", Cond.methodLink RX5 9 Lib.Math.min.name, Cond.static Lib.Math.min.name, Cond.initialized "java/lang/Math", Cond.code Lib.Math.min.name Lib.Math.min.code 2 (some .int), Cond.methodLink RX5 89 yX5_tryStep, Cond.instanceMethod yX5_tryStep, Cond.selects RX5 yX5_tryStep yX5_tryStep, Cond.initialized RX5, Cond.code yX5_tryStep cX5_tryStep 2 (some .boolean), Cond.fieldLink RX5 78 "RewindBox" "now" "I", Cond.fieldLink RX5 81 "RewindBox" "end" "I", Cond.methodLink RX5 100 yX5_stepByLog, Cond.instanceMethod yX5_stepByLog, Cond.selects RX5 yX5_stepByLog yX5_stepByLog, Cond.code yX5_stepByLog cX5_stepByLog 2 none, Cond.fieldLink RX5 39 "RewindBox" "entries" "LRewindBox$Log;", Cond.fieldLink RX5 68 "RewindBox$Log" "count" "I", Cond.fieldLink RX5 124 "RewindBox$Log" "positions" "[I", Cond.fieldLink RX5 127 "RewindBox$Log" "kinds" "[I", Cond.fieldLink RX5 130 "RewindBox$Log" "values" "[I", Cond.methodLink RX5 103 yX1_countBefore, Cond.instanceMethod yX1_countBefore, Cond.selects RX1 yX1_countBefore yX1_countBefore]
def wsX5_step_r2 : List Cond := [Cond.initialized RX1, Cond.code yX1_countBefore cX1_countBefore 5 (some .int), Cond.fieldLink RX1 21 "RewindBox$Log" "count" "I", Cond.fieldLink RX1 9 "RewindBox$Log" "positions" "[I", Cond.methodLink RX5 178 yX5_advance, Cond.instanceMethod yX5_advance, Cond.selects RX5 yX5_advance yX5_advance, Cond.code yX5_advance cX5_advance 4 none, Cond.fieldLink RX5 25 "RewindBox" "machine" "LRewindBox$Machine;", Cond.fieldLink RX5 18 "RewindBox" "interval" "I", Cond.fieldLink RX5 46 "RewindBox" "snapshots" "LRewindBox$Snapshots;", Cond.fieldLink RX5 163 "RewindBox$Machine" "written" "I", Cond.methodLink RX5 182 yX2_takeRing, Cond.instanceMethod yX2_takeRing, Cond.selects RX2 yX2_takeRing yX2_takeRing, Cond.initialized RX2, Cond.code yX2_takeRing cX2_takeRing 1 none, Cond.fieldLink RX2 27 "RewindBox$Machine" "pc" "I", Cond.fieldLink RX2 31 "RewindBox$Machine" "back" "I", Cond.fieldLink RX2 34 "RewindBox$Machine" "open" "Z", Cond.methodLink RX5 185 yX2_perform, Cond.instanceMethod yX2_perform, Cond.selects RX2 yX2_perform yX2_perform, Cond.code yX2_perform cX2_perform 6 none]
def wsX5_step_r3 : List Cond := [Cond.fieldLink RX2 15 "RewindBox$Machine" "memory" "[I", Cond.fieldLink RX2 9 "RewindBox$Machine" "registers" "[I", Cond.methodLink RX2 55 yX2_fieldA, Cond.static yX2_fieldA, Cond.code yX2_fieldA cX2_fieldA 1 (some .int), Cond.static yX5_placeOf, Cond.code yX5_placeOf cX5_placeOf 1 (some .int), Cond.methodLink RX2 61 yX2_fieldB, Cond.static yX2_fieldB, Cond.code yX2_fieldB cX2_fieldB 1 (some .int), Cond.methodLink RX2 64 yX2_fieldC, Cond.static yX2_fieldC, Cond.code yX2_fieldC cX2_fieldC 1 (some .int), Cond.methodLink RX2 67 yX2_compute, Cond.static yX2_compute, Cond.code yX2_compute cX2_compute 3 (some .int), Cond.methodLink RX2 71 yX2_signedHalf, Cond.static yX2_signedHalf, Cond.code yX2_signedHalf cX2_signedHalf 1 (some .int), Cond.methodLink RX2 48 yX2_target, Cond.instanceMethod yX2_target, Cond.selects RX2 yX2_target yX2_target, Cond.code yX2_target cX2_target 2 (some .int), Cond.methodLink RX2 86 yX2_signedByte]
def wsX5_step_r4 : List Cond := [Cond.static yX2_signedByte, Cond.code yX2_signedByte cX2_signedByte 1 (some .int), Cond.methodLink RX2 74 yX2_store, Cond.instanceMethod yX2_store, Cond.selects RX2 yX2_store yX2_store, Cond.code yX2_store cX2_store 3 none, Cond.fieldLink RX2 41 "RewindBox$Machine" "written" "I", Cond.methodLink RX2 52 yX2_pageBit, Cond.static yX2_pageBit, Cond.code yX2_pageBit cX2_pageBit 1 (some .int), Cond.methodLink RX2 78 yX2_putOut, Cond.instanceMethod yX2_putOut, Cond.selects RX2 yX2_putOut yX2_putOut, Cond.code yX2_putOut cX2_putOut 2 none, Cond.fieldLink RX2 38 "RewindBox$Machine" "outCount" "I", Cond.fieldLink RX2 18 "RewindBox$Machine" "keptOuts" "[I", Cond.methodLink RX2 82 yX2_jump, Cond.instanceMethod yX2_jump, Cond.selects RX2 yX2_jump yX2_jump, Cond.code yX2_jump cX2_jump 4 none, Cond.methodLink RX5 188 yX4_add, Cond.instanceMethod yX4_add, Cond.selects RX4 yX4_add yX4_add, Cond.initialized RX4]
def wsX5_step_r5 : List Cond := [Cond.code yX4_add cX4_add 4 none, Cond.fieldLink RX4 20 "RewindBox$Snapshots" "row" "[LRewindBox$Snapshot;", Cond.fieldLink RX4 36 "RewindBox$Snapshots" "count" "I", Cond.fieldLink RX4 40 "RewindBox$Snapshots" "pages" "I", Cond.fieldLink RX4 56 "RewindBox$Snapshot" "firstPage" "I", Cond.fieldLink RX4 25 "RewindBox$Machine" "memory" "[I", Cond.fieldLink RX4 15 "RewindBox$Snapshots" "pageWords" "[I", Cond.methodLink RX4 30 arraycopyName, Cond.native arraycopyName, Cond.static arraycopyName, Cond.initialized "java/lang/System", Cond.methodLink RX4 53 yX3_takeFrom, Cond.instanceMethod yX3_takeFrom, Cond.selects RX3 yX3_takeFrom yX3_takeFrom, Cond.initialized RX3, Cond.code yX3_takeFrom cX3_takeFrom 2 none, Cond.fieldLink RX3 25 "RewindBox$Machine" "registers" "[I", Cond.fieldLink RX3 9 "RewindBox$Snapshot" "registers" "[I", Cond.methodLink RX3 28 arraycopyName, Cond.fieldLink RX3 34 "RewindBox$Machine" "pc" "I", Cond.fieldLink RX3 37 "RewindBox$Snapshot" "pc" "I", Cond.fieldLink RX3 38 "RewindBox$Machine" "back" "I", Cond.fieldLink RX3 41 "RewindBox$Snapshot" "back" "I", Cond.fieldLink RX3 42 "RewindBox$Machine" "open" "Z"]
def wsX5_step_r6 : List Cond := [Cond.fieldLink RX3 46 "RewindBox$Snapshot" "open" "Z", Cond.fieldLink RX3 47 "RewindBox$Machine" "outCount" "I", Cond.fieldLink RX3 50 "RewindBox$Snapshot" "outCount" "I", Cond.fieldLink RX3 51 "RewindBox$Machine" "written" "I", Cond.fieldLink RX3 15 "RewindBox$Snapshot" "written" "I", Cond.methodLink RX4 59 yX3_hasPage, Cond.instanceMethod yX3_hasPage, Cond.selects RX3 yX3_hasPage yX3_hasPage, Cond.code yX3_hasPage cX3_hasPage 2 (some .boolean), Cond.methodLink RX5 151 yX5_nextLiveKind, Cond.instanceMethod yX5_nextLiveKind, Cond.selects RX5 yX5_nextLiveKind yX5_nextLiveKind, Cond.code yX5_nextLiveKind cX5_nextLiveKind 2 (some .int), Cond.fieldLink RX5 75 "RewindBox" "ringCame" "Z", Cond.fieldLink RX5 142 "RewindBox$Machine" "open" "Z", Cond.fieldLink RX5 32 "RewindBox" "inputs" "LRewindBox$Inputs;", Cond.fieldLink RX5 84 "RewindBox$Inputs" "count" "I", Cond.methodLink RX5 160 yX2_nextOp, Cond.instanceMethod yX2_nextOp, Cond.selects RX2 yX2_nextOp yX2_nextOp, Cond.code yX2_nextOp cX2_nextOp 1 (some .int), Cond.methodLink RX5 154 yX5_isFull, Cond.instanceMethod yX5_isFull, Cond.selects RX5 yX5_isFull yX5_isFull]
def wsX5_step_r7 : List Cond := [Cond.code yX5_isFull cX5_isFull 3 (some .boolean), Cond.methodLink RX5 166 yX2_writtenWithNext, Cond.instanceMethod yX2_writtenWithNext, Cond.selects RX2 yX2_writtenWithNext yX2_writtenWithNext, Cond.code yX2_writtenWithNext cX2_writtenWithNext 1 (some .int), Cond.methodLink RX2 44 yX2_nextOp, Cond.methodLink RX5 169 yX4_hasRoomFor, Cond.instanceMethod yX4_hasRoomFor, Cond.selects RX4 yX4_hasRoomFor yX4_hasRoomFor, Cond.code yX4_hasRoomFor cX4_hasRoomFor 2 (some .boolean), Cond.methodLink RX4 47 yJ6_bitCount_0f7a4, Cond.static yJ6_bitCount_0f7a4, Cond.initialized RJ6, Cond.code yJ6_bitCount_0f7a4 cJ6_bitCount_0f7a4 1 (some .int), Cond.constant RJ6 265 (1431655765), Cond.constant RJ6 266 (858993459), Cond.constant RJ6 267 (252645135), Cond.methodLink RX5 157 yX5_stepLive, Cond.instanceMethod yX5_stepLive, Cond.selects RX5 yX5_stepLive yX5_stepLive, Cond.code yX5_stepLive cX5_stepLive 3 none, Cond.methodLink RX5 172 yX0_take, Cond.instanceMethod yX0_take, Cond.selects RX0 yX0_take yX0_take]
def wsX5_step_r8 : List Cond := [Cond.initialized RX0, Cond.code yX0_take cX0_take 2 (some .int), Cond.fieldLink RX0 9 "RewindBox$Inputs" "values" "[I", Cond.fieldLink RX0 15 "RewindBox$Inputs" "first" "I", Cond.fieldLink RX0 19 "RewindBox$Inputs" "count" "I", Cond.methodLink RX5 175 yX1_add, Cond.instanceMethod yX1_add, Cond.selects RX1 yX1_add yX1_add, Cond.code yX1_add cX1_add 4 none, Cond.fieldLink RX1 15 "RewindBox$Log" "kinds" "[I", Cond.fieldLink RX1 18 "RewindBox$Log" "values" "[I"]
def wsX5_step : List Cond := .code yX5_step cX5_step 4 (some .int) :: ((wsX5_step_r1 ++ (wsX5_step_r2 ++ (wsX5_step_r3 ++ (wsX5_step_r4 ++ (wsX5_step_r5 ++ (wsX5_step_r6 ++ (wsX5_step_r7 ++ wsX5_step_r8))))))) ++ wsX50 ++ wsX10 ++ wsX20 ++ wsX40 ++ wsX30 ++ wsX00)
def wsX5_isOnRecord : List Cond := .code yX5_isOnRecord cX5_isOnRecord 2 (some .boolean) :: ([.fieldLink RX5 50 "RewindBox" "recording" "Z", .fieldLink RX5 81 "RewindBox" "end" "I"] ++ wsX50)
def wsX5_go_r1 : List Cond := [Cond.fieldLink RX5 18 "RewindBox" "interval" "I", Cond.fieldLink RX5 46 "RewindBox" "snapshots" "LRewindBox$Snapshots;", Cond.fieldLink RX5 25 "RewindBox" "machine" "LRewindBox$Machine;", Cond.fieldLink RX5 78 "RewindBox" "now" "I", Cond.methodLink RX5 93 yX5_isOnRecord, Cond.instanceMethod yX5_isOnRecord, Cond.selects RX5 yX5_isOnRecord yX5_isOnRecord, Cond.initialized RX5, Cond.code yX5_isOnRecord cX5_isOnRecord 2 (some .boolean), Cond.fieldLink RX5 50 "RewindBox" "recording" "Z", Cond.fieldLink RX5 81 "RewindBox" "end" "I", Cond.methodLink RX5 96 yX4_restore, Cond.instanceMethod yX4_restore, Cond.selects RX4 yX4_restore yX4_restore, Cond.initialized RX4, Cond.code yX4_restore cX4_restore 4 none, Cond.fieldLink RX4 9 "RewindBox$Snapshots" "firstMemory" "[I", Cond.fieldLink RX4 25 "RewindBox$Machine" "memory" "[I", Cond.methodLink RX4 30 arraycopyName, Cond.native arraycopyName, Cond.static arraycopyName, Cond.initialized "java/lang/System", Cond.fieldLink RX4 20 "RewindBox$Snapshots" "row" "[LRewindBox$Snapshot;", Cond.methodLink RX4 67 yX4_layPages]
def wsX5_go_r2 : List Cond := [Cond.instanceMethod yX4_layPages, Cond.selects RX4 yX4_layPages yX4_layPages, Cond.code yX4_layPages cX4_layPages 5 none, Cond.fieldLink RX4 56 "RewindBox$Snapshot" "firstPage" "I", Cond.fieldLink RX4 15 "RewindBox$Snapshots" "pageWords" "[I", Cond.methodLink RX4 59 yX3_hasPage, Cond.instanceMethod yX3_hasPage, Cond.selects RX3 yX3_hasPage yX3_hasPage, Cond.initialized RX3, Cond.code yX3_hasPage cX3_hasPage 2 (some .boolean), Cond.fieldLink RX3 15 "RewindBox$Snapshot" "written" "I", Cond.methodLink RX4 71 yX3_giveBackTo, Cond.instanceMethod yX3_giveBackTo, Cond.selects RX3 yX3_giveBackTo yX3_giveBackTo, Cond.code yX3_giveBackTo cX3_giveBackTo 2 none, Cond.fieldLink RX3 9 "RewindBox$Snapshot" "registers" "[I", Cond.fieldLink RX3 25 "RewindBox$Machine" "registers" "[I", Cond.methodLink RX3 28 arraycopyName, Cond.fieldLink RX3 37 "RewindBox$Snapshot" "pc" "I", Cond.fieldLink RX3 34 "RewindBox$Machine" "pc" "I", Cond.fieldLink RX3 41 "RewindBox$Snapshot" "back" "I", Cond.fieldLink RX3 38 "RewindBox$Machine" "back" "I", Cond.fieldLink RX3 46 "RewindBox$Snapshot" "open" "Z", Cond.fieldLink RX3 42 "RewindBox$Machine" "open" "Z"]
def wsX5_go_r3 : List Cond := [Cond.fieldLink RX3 50 "RewindBox$Snapshot" "outCount" "I", Cond.fieldLink RX3 47 "RewindBox$Machine" "outCount" "I", Cond.fieldLink RX3 51 "RewindBox$Machine" "written" "I", Cond.methodLink RX5 100 yX5_stepByLog, Cond.instanceMethod yX5_stepByLog, Cond.selects RX5 yX5_stepByLog yX5_stepByLog, Cond.code yX5_stepByLog cX5_stepByLog 2 none, Cond.fieldLink RX5 39 "RewindBox" "entries" "LRewindBox$Log;", Cond.fieldLink RX5 68 "RewindBox$Log" "count" "I", Cond.fieldLink RX5 124 "RewindBox$Log" "positions" "[I", Cond.fieldLink RX5 127 "RewindBox$Log" "kinds" "[I", Cond.fieldLink RX5 130 "RewindBox$Log" "values" "[I", Cond.methodLink RX5 103 yX1_countBefore, Cond.instanceMethod yX1_countBefore, Cond.selects RX1 yX1_countBefore yX1_countBefore, Cond.initialized RX1, Cond.code yX1_countBefore cX1_countBefore 5 (some .int), Cond.fieldLink RX1 21 "RewindBox$Log" "count" "I", Cond.fieldLink RX1 9 "RewindBox$Log" "positions" "[I", Cond.methodLink RX5 178 yX5_advance, Cond.instanceMethod yX5_advance, Cond.selects RX5 yX5_advance yX5_advance, Cond.code yX5_advance cX5_advance 4 none, Cond.fieldLink RX5 163 "RewindBox$Machine" "written" "I"]
def wsX5_go_r4 : List Cond := [Cond.methodLink RX5 182 yX2_takeRing, Cond.instanceMethod yX2_takeRing, Cond.selects RX2 yX2_takeRing yX2_takeRing, Cond.initialized RX2, Cond.code yX2_takeRing cX2_takeRing 1 none, Cond.fieldLink RX2 27 "RewindBox$Machine" "pc" "I", Cond.fieldLink RX2 31 "RewindBox$Machine" "back" "I", Cond.fieldLink RX2 34 "RewindBox$Machine" "open" "Z", Cond.methodLink RX5 185 yX2_perform, Cond.instanceMethod yX2_perform, Cond.selects RX2 yX2_perform yX2_perform, Cond.code yX2_perform cX2_perform 6 none, Cond.fieldLink RX2 15 "RewindBox$Machine" "memory" "[I", Cond.fieldLink RX2 9 "RewindBox$Machine" "registers" "[I", Cond.methodLink RX2 55 yX2_fieldA, Cond.static yX2_fieldA, Cond.code yX2_fieldA cX2_fieldA 1 (some .int), Cond.static yX5_placeOf, Cond.code yX5_placeOf cX5_placeOf 1 (some .int), Cond.methodLink RX2 61 yX2_fieldB, Cond.static yX2_fieldB, Cond.code yX2_fieldB cX2_fieldB 1 (some .int), Cond.methodLink RX2 64 yX2_fieldC, Cond.static yX2_fieldC]
def wsX5_go_r5 : List Cond := [Cond.code yX2_fieldC cX2_fieldC 1 (some .int), Cond.methodLink RX2 67 yX2_compute, Cond.static yX2_compute, Cond.code yX2_compute cX2_compute 3 (some .int), Cond.methodLink RX2 71 yX2_signedHalf, Cond.static yX2_signedHalf, Cond.code yX2_signedHalf cX2_signedHalf 1 (some .int), Cond.methodLink RX2 48 yX2_target, Cond.instanceMethod yX2_target, Cond.selects RX2 yX2_target yX2_target, Cond.code yX2_target cX2_target 2 (some .int), Cond.methodLink RX2 86 yX2_signedByte, Cond.static yX2_signedByte, Cond.code yX2_signedByte cX2_signedByte 1 (some .int), Cond.methodLink RX2 74 yX2_store, Cond.instanceMethod yX2_store, Cond.selects RX2 yX2_store yX2_store, Cond.code yX2_store cX2_store 3 none, Cond.fieldLink RX2 41 "RewindBox$Machine" "written" "I", Cond.methodLink RX2 52 yX2_pageBit, Cond.static yX2_pageBit, Cond.code yX2_pageBit cX2_pageBit 1 (some .int), Cond.methodLink RX2 78 yX2_putOut, Cond.instanceMethod yX2_putOut]
def wsX5_go_r6 : List Cond := [Cond.selects RX2 yX2_putOut yX2_putOut, Cond.code yX2_putOut cX2_putOut 2 none, Cond.fieldLink RX2 38 "RewindBox$Machine" "outCount" "I", Cond.fieldLink RX2 18 "RewindBox$Machine" "keptOuts" "[I", Cond.methodLink RX2 82 yX2_jump, Cond.instanceMethod yX2_jump, Cond.selects RX2 yX2_jump yX2_jump, Cond.code yX2_jump cX2_jump 4 none, Cond.methodLink RX5 188 yX4_add, Cond.instanceMethod yX4_add, Cond.selects RX4 yX4_add yX4_add, Cond.code yX4_add cX4_add 4 none, Cond.fieldLink RX4 36 "RewindBox$Snapshots" "count" "I", Cond.fieldLink RX4 40 "RewindBox$Snapshots" "pages" "I", Cond.methodLink RX4 53 yX3_takeFrom, Cond.instanceMethod yX3_takeFrom, Cond.selects RX3 yX3_takeFrom yX3_takeFrom, Cond.code yX3_takeFrom cX3_takeFrom 2 none]
def wsX5_go : List Cond := .code yX5_go cX5_go 4 (some .boolean) :: ((wsX5_go_r1 ++ (wsX5_go_r2 ++ (wsX5_go_r3 ++ (wsX5_go_r4 ++ (wsX5_go_r5 ++ wsX5_go_r6))))) ++ wsX50 ++ wsX40 ++ wsX20 ++ wsX30 ++ wsX10)
def wsX5_far : List Cond := .code yX5_far cX5_far 2 (some .int) :: ([.fieldLink RX5 18 "RewindBox" "interval" "I", .methodLink RX5 93 yX5_isOnRecord, .instanceMethod yX5_isOnRecord, .selects RX5 yX5_isOnRecord yX5_isOnRecord, .initialized RX5, .code yX5_isOnRecord cX5_isOnRecord 2 (some .boolean), .fieldLink RX5 50 "RewindBox" "recording" "Z", .fieldLink RX5 81 "RewindBox" "end" "I"] ++ wsX50)
def wsX5_cut_r1 : List Cond := [Cond.fieldLink RX5 50 "RewindBox" "recording" "Z", Cond.fieldLink RX5 78 "RewindBox" "now" "I", Cond.fieldLink RX5 81 "RewindBox" "end" "I", Cond.fieldLink RX5 39 "RewindBox" "entries" "LRewindBox$Log;", Cond.fieldLink RX5 68 "RewindBox$Log" "count" "I", Cond.fieldLink RX5 46 "RewindBox" "snapshots" "LRewindBox$Snapshots;", Cond.fieldLink RX5 18 "RewindBox" "interval" "I", Cond.methodLink RX5 103 yX1_countBefore, Cond.instanceMethod yX1_countBefore, Cond.selects RX1 yX1_countBefore yX1_countBefore, Cond.initialized RX1, Cond.code yX1_countBefore cX1_countBefore 5 (some .int), Cond.fieldLink RX1 21 "RewindBox$Log" "count" "I", Cond.fieldLink RX1 9 "RewindBox$Log" "positions" "[I", Cond.methodLink RX5 107 yX4_keepFirst, Cond.instanceMethod yX4_keepFirst, Cond.selects RX4 yX4_keepFirst yX4_keepFirst, Cond.initialized RX4, Cond.code yX4_keepFirst cX4_keepFirst 3 none, Cond.fieldLink RX4 20 "RewindBox$Snapshots" "row" "[LRewindBox$Snapshot;", Cond.fieldLink RX4 36 "RewindBox$Snapshots" "count" "I", Cond.fieldLink RX4 56 "RewindBox$Snapshot" "firstPage" "I", Cond.fieldLink RX4 40 "RewindBox$Snapshots" "pages" "I", Cond.methodLink RX4 63 yX3_pageCount]
def wsX5_cut_r2 : List Cond := [Cond.instanceMethod yX3_pageCount, Cond.selects RX3 yX3_pageCount yX3_pageCount, Cond.initialized RX3, Cond.code yX3_pageCount cX3_pageCount 1 (some .int), Cond.fieldLink RX3 15 "RewindBox$Snapshot" "written" "I", Cond.methodLink RX3 19 yJ6_bitCount_0f7a4, Cond.static yJ6_bitCount_0f7a4, Cond.initialized RJ6, Cond.code yJ6_bitCount_0f7a4 cJ6_bitCount_0f7a4 1 (some .int), Cond.constant RJ6 265 (1431655765), Cond.constant RJ6 266 (858993459), Cond.constant RJ6 267 (252645135)]
def wsX5_cut : List Cond := .code yX5_cut cX5_cut 1 (some .int) :: ((wsX5_cut_r1 ++ wsX5_cut_r2) ++ wsX50 ++ wsX10 ++ wsX40 ++ wsX30)
def wsX5_record : List Cond := .code yX5_record cX5_record 2 (some .int) :: ([.fieldLink RX5 50 "RewindBox" "recording" "Z", .fieldLink RX5 78 "RewindBox" "now" "I", .fieldLink RX5 81 "RewindBox" "end" "I", .fieldLink RX5 39 "RewindBox" "entries" "LRewindBox$Log;", .fieldLink RX5 68 "RewindBox$Log" "count" "I", .fieldLink RX5 46 "RewindBox" "snapshots" "LRewindBox$Snapshots;", .fieldLink RX5 110 "RewindBox$Snapshots" "count" "I", .fieldLink RX5 111 "RewindBox$Snapshots" "pages" "I", .fieldLink RX5 32 "RewindBox" "inputs" "LRewindBox$Inputs;", .fieldLink RX5 84 "RewindBox$Inputs" "count" "I", .fieldLink RX5 75 "RewindBox" "ringCame" "Z"] ++ wsX50 ++ wsX10 ++ wsX40 ++ wsX00)
def wsX5_pages : List Cond := .code yX5_pages cX5_pages 2 (some .int) :: ([.fieldLink RX5 50 "RewindBox" "recording" "Z", .fieldLink RX5 46 "RewindBox" "snapshots" "LRewindBox$Snapshots;", .fieldLink RX5 110 "RewindBox$Snapshots" "count" "I", .fieldLink RX5 114 "RewindBox$Snapshots" "row" "[LRewindBox$Snapshot;", .methodLink RX5 118 yX3_pageCount, .instanceMethod yX3_pageCount, .selects RX3 yX3_pageCount yX3_pageCount, .initialized RX3, .code yX3_pageCount cX3_pageCount 1 (some .int), .fieldLink RX3 15 "RewindBox$Snapshot" "written" "I", .methodLink RX3 19 yJ6_bitCount_0f7a4, .static yJ6_bitCount_0f7a4, .initialized RJ6, .code yJ6_bitCount_0f7a4 cJ6_bitCount_0f7a4 1 (some .int), .constant RJ6 265 (1431655765), .constant RJ6 266 (858993459), .constant RJ6 267 (252645135)] ++ wsX50 ++ wsX40 ++ wsX30)
def wsX5_log : List Cond := .code yX5_log cX5_log 3 (some .int) :: ([.fieldLink RX5 50 "RewindBox" "recording" "Z", .fieldLink RX5 39 "RewindBox" "entries" "LRewindBox$Log;", .fieldLink RX5 68 "RewindBox$Log" "count" "I", .fieldLink RX5 124 "RewindBox$Log" "positions" "[I", .fieldLink RX5 127 "RewindBox$Log" "kinds" "[I", .fieldLink RX5 130 "RewindBox$Log" "values" "[I"] ++ wsX50 ++ wsX10)
def wsX5_register : List Cond := .code yX5_register cX5_register 2 (some .int) :: ([.fieldLink RX5 25 "RewindBox" "machine" "LRewindBox$Machine;", .fieldLink RX5 133 "RewindBox$Machine" "registers" "[I", .fieldLink RX5 136 "RewindBox$Machine" "pc" "I", .fieldLink RX5 139 "RewindBox$Machine" "back" "I", .fieldLink RX5 142 "RewindBox$Machine" "open" "Z"] ++ wsX50 ++ wsX20)
def wsX5_word : List Cond := .code yX5_word cX5_word 2 (some .int) :: ([.fieldLink RX5 25 "RewindBox" "machine" "LRewindBox$Machine;", .fieldLink RX5 58 "RewindBox$Machine" "memory" "[I", .methodLink RX5 54 yX5_isPlace, .static yX5_isPlace, .initialized RX5, .code yX5_isPlace cX5_isPlace 1 (some .boolean)] ++ wsX50 ++ wsX20)
def wsX5_outs : List Cond := .code yX5_outs cX5_outs 1 (some .int) :: ([.fieldLink RX5 25 "RewindBox" "machine" "LRewindBox$Machine;", .fieldLink RX5 145 "RewindBox$Machine" "outCount" "I"] ++ wsX50 ++ wsX20)
def wsX5_out : List Cond := .code yX5_out cX5_out 2 (some .int) :: ([.fieldLink RX5 25 "RewindBox" "machine" "LRewindBox$Machine;", .fieldLink RX5 145 "RewindBox$Machine" "outCount" "I", .fieldLink RX5 148 "RewindBox$Machine" "keptOuts" "[I"] ++ wsX50 ++ wsX20)
def wsX6_init : List Cond := .code yX6_init cX6_init 2 none :: ([.methodLink RX6 1 objectInit, .instanceMethod objectInit, .code objectInit ⟨#[0xb1]⟩ 1 none, .arrayClass .int, .fieldLink RX6 7 "RewindBoxModel" "first" "[I", .fieldLink RX6 13 "RewindBoxModel" "memory" "[I", .fieldLink RX6 16 "RewindBoxModel" "registers" "[I", .fieldLink RX6 19 "RewindBoxModel" "kept" "[I", .fieldLink RX6 22 "RewindBoxModel" "logAt" "[I", .fieldLink RX6 25 "RewindBoxModel" "logKind" "[I", .fieldLink RX6 28 "RewindBoxModel" "logInput" "[I", .fieldLink RX6 31 "RewindBoxModel" "pagesOf" "[I", .arrayClass .boolean, .fieldLink RX6 34 "RewindBoxModel" "written" "[Z", .fieldLink RX6 38 "RewindBoxModel" "inputs" "[I", .fieldLink RX6 41 "RewindBoxModel" "interval" "I"] ++ wsX60)
def wsX6_isPlace : List Cond := .code yX6_isPlace cX6_isPlace 1 (some .boolean) :: ([])
def wsX6_poke : List Cond := .code yX6_poke cX6_poke 3 (some .boolean) :: ([.fieldLink RX6 45 "RewindBoxModel" "records" "Z", .fieldLink RX6 13 "RewindBoxModel" "memory" "[I", .methodLink RX6 49 yX6_isPlace, .static yX6_isPlace, .initialized RX6, .code yX6_isPlace cX6_isPlace 1 (some .boolean)] ++ wsX60)
def wsX6_rewind : List Cond := .code yX6_rewind cX6_rewind 2 none :: ([.fieldLink RX6 13 "RewindBoxModel" "memory" "[I", .fieldLink RX6 7 "RewindBoxModel" "first" "[I", .fieldLink RX6 16 "RewindBoxModel" "registers" "[I", .fieldLink RX6 34 "RewindBoxModel" "written" "[Z", .fieldLink RX6 53 "RewindBoxModel" "pc" "I", .fieldLink RX6 56 "RewindBoxModel" "back" "I", .fieldLink RX6 59 "RewindBoxModel" "open" "Z", .fieldLink RX6 62 "RewindBoxModel" "sent" "I", .fieldLink RX6 65 "RewindBoxModel" "position" "I", .fieldLink RX6 68 "RewindBoxModel" "passed" "I"] ++ wsX60)
def wsX6_start : List Cond := .code yX6_start cX6_start 2 none :: ([.fieldLink RX6 7 "RewindBoxModel" "first" "[I", .fieldLink RX6 13 "RewindBoxModel" "memory" "[I", .fieldLink RX6 45 "RewindBoxModel" "records" "Z", .fieldLink RX6 71 "RewindBoxModel" "end" "I", .fieldLink RX6 74 "RewindBoxModel" "entries" "I", .fieldLink RX6 77 "RewindBoxModel" "snapshots" "I", .fieldLink RX6 31 "RewindBoxModel" "pagesOf" "[I", .fieldLink RX6 80 "RewindBoxModel" "waiting" "I", .fieldLink RX6 83 "RewindBoxModel" "rang" "Z", .methodLink RX6 86 yX6_rewind, .instanceMethod yX6_rewind, .selects RX6 yX6_rewind yX6_rewind, .initialized RX6, .code yX6_rewind cX6_rewind 2 none, .fieldLink RX6 16 "RewindBoxModel" "registers" "[I", .fieldLink RX6 34 "RewindBoxModel" "written" "[Z", .fieldLink RX6 53 "RewindBoxModel" "pc" "I", .fieldLink RX6 56 "RewindBoxModel" "back" "I", .fieldLink RX6 59 "RewindBoxModel" "open" "Z", .fieldLink RX6 62 "RewindBoxModel" "sent" "I", .fieldLink RX6 65 "RewindBoxModel" "position" "I", .fieldLink RX6 68 "RewindBoxModel" "passed" "I"] ++ wsX60)
def wsX6_stop : List Cond := .code yX6_stop cX6_stop 1 none :: ([.fieldLink RX6 45 "RewindBoxModel" "records" "Z"] ++ wsX60)
def wsX6_give : List Cond := .code yX6_give cX6_give 2 (some .int) :: ([.fieldLink RX6 45 "RewindBoxModel" "records" "Z", .fieldLink RX6 80 "RewindBoxModel" "waiting" "I", .fieldLink RX6 38 "RewindBoxModel" "inputs" "[I"] ++ wsX60)
def wsX6_ring : List Cond := .code yX6_ring cX6_ring 1 (some .boolean) :: ([.fieldLink RX6 45 "RewindBoxModel" "records" "Z", .fieldLink RX6 83 "RewindBoxModel" "rang" "Z"] ++ wsX60)
def wsX6_meant : List Cond := .code yX6_meant cX6_meant 2 (some .int) :: ([.fieldLink RX6 16 "RewindBoxModel" "registers" "[I"] ++ wsX60)
def wsX6_interrupt : List Cond := .code yX6_interrupt cX6_interrupt 1 none :: ([.fieldLink RX6 53 "RewindBoxModel" "pc" "I", .fieldLink RX6 56 "RewindBoxModel" "back" "I", .fieldLink RX6 59 "RewindBoxModel" "open" "Z"] ++ wsX60)
def wsX6_send : List Cond := .code yX6_send cX6_send 2 none :: ([.fieldLink RX6 62 "RewindBoxModel" "sent" "I", .fieldLink RX6 19 "RewindBoxModel" "kept" "[I"] ++ wsX60)
def wsX6_write : List Cond := .code yX6_write cX6_write 3 none :: ([.fieldLink RX6 13 "RewindBoxModel" "memory" "[I", .fieldLink RX6 34 "RewindBoxModel" "written" "[Z"] ++ wsX60)
def wsX6_work : List Cond := .code yX6_work cX6_work 6 none :: ([.fieldLink RX6 16 "RewindBoxModel" "registers" "[I", .fieldLink RX6 13 "RewindBoxModel" "memory" "[I", .fieldLink RX6 65 "RewindBoxModel" "position" "I", .methodLink RX6 89 yX6_meant, .instanceMethod yX6_meant, .selects RX6 yX6_meant yX6_meant, .initialized RX6, .code yX6_meant cX6_meant 2 (some .int), .methodLink RX6 93 yX6_write, .instanceMethod yX6_write, .selects RX6 yX6_write yX6_write, .code yX6_write cX6_write 3 none, .fieldLink RX6 34 "RewindBoxModel" "written" "[Z", .methodLink RX6 97 yX6_send, .instanceMethod yX6_send, .selects RX6 yX6_send yX6_send, .code yX6_send cX6_send 2 none, .fieldLink RX6 62 "RewindBoxModel" "sent" "I", .fieldLink RX6 19 "RewindBoxModel" "kept" "[I"] ++ wsX60)
def wsX6_move : List Cond := .code yX6_move cX6_move 6 none :: ([.fieldLink RX6 16 "RewindBoxModel" "registers" "[I", .fieldLink RX6 53 "RewindBoxModel" "pc" "I", .fieldLink RX6 56 "RewindBoxModel" "back" "I", .fieldLink RX6 59 "RewindBoxModel" "open" "Z"] ++ wsX60)
def wsX6_instruct_r1 : List Cond := [Cond.methodLink RX6 101 yX6_move, Cond.instanceMethod yX6_move, Cond.selects RX6 yX6_move yX6_move, Cond.initialized RX6, Cond.code yX6_move cX6_move 6 none, Cond.fieldLink RX6 16 "RewindBoxModel" "registers" "[I", Cond.fieldLink RX6 53 "RewindBoxModel" "pc" "I", Cond.fieldLink RX6 56 "RewindBoxModel" "back" "I", Cond.fieldLink RX6 59 "RewindBoxModel" "open" "Z", Cond.methodLink RX6 104 yX6_work, Cond.instanceMethod yX6_work, Cond.selects RX6 yX6_work yX6_work, Cond.code yX6_work cX6_work 6 none, Cond.fieldLink RX6 13 "RewindBoxModel" "memory" "[I", Cond.fieldLink RX6 65 "RewindBoxModel" "position" "I", Cond.methodLink RX6 89 yX6_meant, Cond.instanceMethod yX6_meant, Cond.selects RX6 yX6_meant yX6_meant, Cond.code yX6_meant cX6_meant 2 (some .int), Cond.methodLink RX6 93 yX6_write, Cond.instanceMethod yX6_write, Cond.selects RX6 yX6_write yX6_write, Cond.code yX6_write cX6_write 3 none, Cond.fieldLink RX6 34 "RewindBoxModel" "written" "[Z"]
def wsX6_instruct_r2 : List Cond := [Cond.methodLink RX6 97 yX6_send, Cond.instanceMethod yX6_send, Cond.selects RX6 yX6_send yX6_send, Cond.code yX6_send cX6_send 2 none, Cond.fieldLink RX6 62 "RewindBoxModel" "sent" "I", Cond.fieldLink RX6 19 "RewindBoxModel" "kept" "[I"]
def wsX6_instruct : List Cond := .code yX6_instruct cX6_instruct 3 none :: ((wsX6_instruct_r1 ++ wsX6_instruct_r2) ++ wsX60)
def wsX6_pass : List Cond := .code yX6_pass cX6_pass 2 none :: ([.fieldLink RX6 65 "RewindBoxModel" "position" "I", .fieldLink RX6 41 "RewindBoxModel" "interval" "I", .fieldLink RX6 34 "RewindBoxModel" "written" "[Z"] ++ wsX60)
def wsX6_again_r1 : List Cond := [Cond.fieldLink RX6 68 "RewindBoxModel" "passed" "I", Cond.fieldLink RX6 74 "RewindBoxModel" "entries" "I", Cond.fieldLink RX6 22 "RewindBoxModel" "logAt" "[I", Cond.fieldLink RX6 65 "RewindBoxModel" "position" "I", Cond.fieldLink RX6 28 "RewindBoxModel" "logInput" "[I", Cond.fieldLink RX6 25 "RewindBoxModel" "logKind" "[I", Cond.fieldLink RX6 13 "RewindBoxModel" "memory" "[I", Cond.fieldLink RX6 53 "RewindBoxModel" "pc" "I", Cond.methodLink RX6 107 yX6_interrupt, Cond.instanceMethod yX6_interrupt, Cond.selects RX6 yX6_interrupt yX6_interrupt, Cond.initialized RX6, Cond.code yX6_interrupt cX6_interrupt 1 none, Cond.fieldLink RX6 56 "RewindBoxModel" "back" "I", Cond.fieldLink RX6 59 "RewindBoxModel" "open" "Z", Cond.methodLink RX6 110 yX6_instruct, Cond.instanceMethod yX6_instruct, Cond.selects RX6 yX6_instruct yX6_instruct, Cond.code yX6_instruct cX6_instruct 3 none, Cond.methodLink RX6 101 yX6_move, Cond.instanceMethod yX6_move, Cond.selects RX6 yX6_move yX6_move, Cond.code yX6_move cX6_move 6 none, Cond.fieldLink RX6 16 "RewindBoxModel" "registers" "[I"]
def wsX6_again_r2 : List Cond := [Cond.methodLink RX6 104 yX6_work, Cond.instanceMethod yX6_work, Cond.selects RX6 yX6_work yX6_work, Cond.code yX6_work cX6_work 6 none, Cond.methodLink RX6 89 yX6_meant, Cond.instanceMethod yX6_meant, Cond.selects RX6 yX6_meant yX6_meant, Cond.code yX6_meant cX6_meant 2 (some .int), Cond.methodLink RX6 93 yX6_write, Cond.instanceMethod yX6_write, Cond.selects RX6 yX6_write yX6_write, Cond.code yX6_write cX6_write 3 none, Cond.fieldLink RX6 34 "RewindBoxModel" "written" "[Z", Cond.methodLink RX6 97 yX6_send, Cond.instanceMethod yX6_send, Cond.selects RX6 yX6_send yX6_send, Cond.code yX6_send cX6_send 2 none, Cond.fieldLink RX6 62 "RewindBoxModel" "sent" "I", Cond.fieldLink RX6 19 "RewindBoxModel" "kept" "[I", Cond.methodLink RX6 113 yX6_pass, Cond.instanceMethod yX6_pass, Cond.selects RX6 yX6_pass yX6_pass, Cond.code yX6_pass cX6_pass 2 none, Cond.fieldLink RX6 41 "RewindBoxModel" "interval" "I"]
def wsX6_again : List Cond := .code yX6_again cX6_again 3 none :: ((wsX6_again_r1 ++ wsX6_again_r2) ++ wsX60)
def wsX6_writtenPages : List Cond := .code yX6_writtenPages cX6_writtenPages 3 (some .int) :: ([.fieldLink RX6 34 "RewindBoxModel" "written" "[Z"] ++ wsX60)
def wsX6_allPages : List Cond := .code yX6_allPages cX6_allPages 3 (some .int) :: ([.fieldLink RX6 77 "RewindBoxModel" "snapshots" "I", .fieldLink RX6 31 "RewindBoxModel" "pagesOf" "[I"] ++ wsX60)
def wsX6_isFull : List Cond := .code yX6_isFull cX6_isFull 5 (some .boolean) :: ([.fieldLink RX6 71 "RewindBoxModel" "end" "I", .fieldLink RX6 41 "RewindBoxModel" "interval" "I", .fieldLink RX6 34 "RewindBoxModel" "written" "[Z", .fieldLink RX6 77 "RewindBoxModel" "snapshots" "I", .methodLink RX6 116 yX6_writtenPages, .instanceMethod yX6_writtenPages, .selects RX6 yX6_writtenPages yX6_writtenPages, .initialized RX6, .code yX6_writtenPages cX6_writtenPages 3 (some .int), .methodLink RX6 89 yX6_meant, .instanceMethod yX6_meant, .selects RX6 yX6_meant yX6_meant, .code yX6_meant cX6_meant 2 (some .int), .fieldLink RX6 16 "RewindBoxModel" "registers" "[I", .methodLink RX6 120 yX6_allPages, .instanceMethod yX6_allPages, .selects RX6 yX6_allPages yX6_allPages, .code yX6_allPages cX6_allPages 3 (some .int), .fieldLink RX6 31 "RewindBoxModel" "pagesOf" "[I"] ++ wsX60)
def wsX6_note : List Cond := .code yX6_note cX6_note 3 none :: ([.fieldLink RX6 22 "RewindBoxModel" "logAt" "[I", .fieldLink RX6 74 "RewindBoxModel" "entries" "I", .fieldLink RX6 65 "RewindBoxModel" "position" "I", .fieldLink RX6 25 "RewindBoxModel" "logKind" "[I", .fieldLink RX6 28 "RewindBoxModel" "logInput" "[I", .fieldLink RX6 68 "RewindBoxModel" "passed" "I"] ++ wsX60)
def wsX6_takeInput : List Cond := .code yX6_takeInput cX6_takeInput 3 (some .int) :: ([.fieldLink RX6 38 "RewindBoxModel" "inputs" "[I", .fieldLink RX6 80 "RewindBoxModel" "waiting" "I"] ++ wsX60)
def wsX6_live_r1 : List Cond := [Cond.fieldLink RX6 83 "RewindBoxModel" "rang" "Z", Cond.fieldLink RX6 59 "RewindBoxModel" "open" "Z", Cond.fieldLink RX6 13 "RewindBoxModel" "memory" "[I", Cond.fieldLink RX6 53 "RewindBoxModel" "pc" "I", Cond.fieldLink RX6 80 "RewindBoxModel" "waiting" "I", Cond.fieldLink RX6 74 "RewindBoxModel" "entries" "I", Cond.fieldLink RX6 71 "RewindBoxModel" "end" "I", Cond.fieldLink RX6 41 "RewindBoxModel" "interval" "I", Cond.fieldLink RX6 31 "RewindBoxModel" "pagesOf" "[I", Cond.fieldLink RX6 77 "RewindBoxModel" "snapshots" "I", Cond.methodLink RX6 123 yX6_isFull, Cond.instanceMethod yX6_isFull, Cond.selects RX6 yX6_isFull yX6_isFull, Cond.initialized RX6, Cond.code yX6_isFull cX6_isFull 5 (some .boolean), Cond.fieldLink RX6 34 "RewindBoxModel" "written" "[Z", Cond.methodLink RX6 116 yX6_writtenPages, Cond.instanceMethod yX6_writtenPages, Cond.selects RX6 yX6_writtenPages yX6_writtenPages, Cond.code yX6_writtenPages cX6_writtenPages 3 (some .int), Cond.methodLink RX6 89 yX6_meant, Cond.instanceMethod yX6_meant, Cond.selects RX6 yX6_meant yX6_meant, Cond.code yX6_meant cX6_meant 2 (some .int)]
def wsX6_live_r2 : List Cond := [Cond.fieldLink RX6 16 "RewindBoxModel" "registers" "[I", Cond.methodLink RX6 120 yX6_allPages, Cond.instanceMethod yX6_allPages, Cond.selects RX6 yX6_allPages yX6_allPages, Cond.code yX6_allPages cX6_allPages 3 (some .int), Cond.methodLink RX6 127 yX6_takeInput, Cond.instanceMethod yX6_takeInput, Cond.selects RX6 yX6_takeInput yX6_takeInput, Cond.code yX6_takeInput cX6_takeInput 3 (some .int), Cond.fieldLink RX6 38 "RewindBoxModel" "inputs" "[I", Cond.methodLink RX6 130 yX6_note, Cond.instanceMethod yX6_note, Cond.selects RX6 yX6_note yX6_note, Cond.code yX6_note cX6_note 3 none, Cond.fieldLink RX6 22 "RewindBoxModel" "logAt" "[I", Cond.fieldLink RX6 65 "RewindBoxModel" "position" "I", Cond.fieldLink RX6 25 "RewindBoxModel" "logKind" "[I", Cond.fieldLink RX6 28 "RewindBoxModel" "logInput" "[I", Cond.fieldLink RX6 68 "RewindBoxModel" "passed" "I", Cond.methodLink RX6 107 yX6_interrupt, Cond.instanceMethod yX6_interrupt, Cond.selects RX6 yX6_interrupt yX6_interrupt, Cond.code yX6_interrupt cX6_interrupt 1 none, Cond.fieldLink RX6 56 "RewindBoxModel" "back" "I"]
def wsX6_live_r3 : List Cond := [Cond.methodLink RX6 110 yX6_instruct, Cond.instanceMethod yX6_instruct, Cond.selects RX6 yX6_instruct yX6_instruct, Cond.code yX6_instruct cX6_instruct 3 none, Cond.methodLink RX6 101 yX6_move, Cond.instanceMethod yX6_move, Cond.selects RX6 yX6_move yX6_move, Cond.code yX6_move cX6_move 6 none, Cond.methodLink RX6 104 yX6_work, Cond.instanceMethod yX6_work, Cond.selects RX6 yX6_work yX6_work, Cond.code yX6_work cX6_work 6 none, Cond.methodLink RX6 93 yX6_write, Cond.instanceMethod yX6_write, Cond.selects RX6 yX6_write yX6_write, Cond.code yX6_write cX6_write 3 none, Cond.methodLink RX6 97 yX6_send, Cond.instanceMethod yX6_send, Cond.selects RX6 yX6_send yX6_send, Cond.code yX6_send cX6_send 2 none, Cond.fieldLink RX6 62 "RewindBoxModel" "sent" "I", Cond.fieldLink RX6 19 "RewindBoxModel" "kept" "[I", Cond.methodLink RX6 113 yX6_pass, Cond.instanceMethod yX6_pass]
def wsX6_live_r4 : List Cond := [Cond.selects RX6 yX6_pass yX6_pass, Cond.code yX6_pass cX6_pass 2 none]
def wsX6_live : List Cond := .code yX6_live cX6_live 5 (some .boolean) :: ((wsX6_live_r1 ++ (wsX6_live_r2 ++ (wsX6_live_r3 ++ wsX6_live_r4))) ++ wsX60)
def wsX6_step_r1 : List Cond := [Cond.fieldLink RX6 45 "RewindBoxModel" "records" "Z", Cond.fieldLink RX6 65 "RewindBoxModel" "position" "I", Cond.fieldLink RX6 71 "RewindBoxModel" "end" "I", Cond.methodLink RX6 133 yX6_again, Cond.instanceMethod yX6_again, Cond.selects RX6 yX6_again yX6_again, Cond.initialized RX6, Cond.code yX6_again cX6_again 3 none, Cond.fieldLink RX6 68 "RewindBoxModel" "passed" "I", Cond.fieldLink RX6 74 "RewindBoxModel" "entries" "I", Cond.fieldLink RX6 22 "RewindBoxModel" "logAt" "[I", Cond.fieldLink RX6 28 "RewindBoxModel" "logInput" "[I", Cond.fieldLink RX6 25 "RewindBoxModel" "logKind" "[I", Cond.fieldLink RX6 13 "RewindBoxModel" "memory" "[I", Cond.fieldLink RX6 53 "RewindBoxModel" "pc" "I", Cond.methodLink RX6 107 yX6_interrupt, Cond.instanceMethod yX6_interrupt, Cond.selects RX6 yX6_interrupt yX6_interrupt, Cond.code yX6_interrupt cX6_interrupt 1 none, Cond.fieldLink RX6 56 "RewindBoxModel" "back" "I", Cond.fieldLink RX6 59 "RewindBoxModel" "open" "Z", Cond.methodLink RX6 110 yX6_instruct, Cond.instanceMethod yX6_instruct, Cond.selects RX6 yX6_instruct yX6_instruct]
def wsX6_step_r2 : List Cond := [Cond.code yX6_instruct cX6_instruct 3 none, Cond.methodLink RX6 101 yX6_move, Cond.instanceMethod yX6_move, Cond.selects RX6 yX6_move yX6_move, Cond.code yX6_move cX6_move 6 none, Cond.fieldLink RX6 16 "RewindBoxModel" "registers" "[I", Cond.methodLink RX6 104 yX6_work, Cond.instanceMethod yX6_work, Cond.selects RX6 yX6_work yX6_work, Cond.code yX6_work cX6_work 6 none, Cond.methodLink RX6 89 yX6_meant, Cond.instanceMethod yX6_meant, Cond.selects RX6 yX6_meant yX6_meant, Cond.code yX6_meant cX6_meant 2 (some .int), Cond.methodLink RX6 93 yX6_write, Cond.instanceMethod yX6_write, Cond.selects RX6 yX6_write yX6_write, Cond.code yX6_write cX6_write 3 none, Cond.fieldLink RX6 34 "RewindBoxModel" "written" "[Z", Cond.methodLink RX6 97 yX6_send, Cond.instanceMethod yX6_send, Cond.selects RX6 yX6_send yX6_send, Cond.code yX6_send cX6_send 2 none, Cond.fieldLink RX6 62 "RewindBoxModel" "sent" "I"]
def wsX6_step_r3 : List Cond := [Cond.fieldLink RX6 19 "RewindBoxModel" "kept" "[I", Cond.methodLink RX6 113 yX6_pass, Cond.instanceMethod yX6_pass, Cond.selects RX6 yX6_pass yX6_pass, Cond.code yX6_pass cX6_pass 2 none, Cond.fieldLink RX6 41 "RewindBoxModel" "interval" "I", Cond.methodLink RX6 136 yX6_live, Cond.instanceMethod yX6_live, Cond.selects RX6 yX6_live yX6_live, Cond.code yX6_live cX6_live 5 (some .boolean), Cond.fieldLink RX6 83 "RewindBoxModel" "rang" "Z", Cond.fieldLink RX6 80 "RewindBoxModel" "waiting" "I", Cond.fieldLink RX6 31 "RewindBoxModel" "pagesOf" "[I", Cond.fieldLink RX6 77 "RewindBoxModel" "snapshots" "I", Cond.methodLink RX6 123 yX6_isFull, Cond.instanceMethod yX6_isFull, Cond.selects RX6 yX6_isFull yX6_isFull, Cond.code yX6_isFull cX6_isFull 5 (some .boolean), Cond.methodLink RX6 116 yX6_writtenPages, Cond.instanceMethod yX6_writtenPages, Cond.selects RX6 yX6_writtenPages yX6_writtenPages, Cond.code yX6_writtenPages cX6_writtenPages 3 (some .int), Cond.methodLink RX6 120 yX6_allPages, Cond.instanceMethod yX6_allPages]
def wsX6_step_r4 : List Cond := [Cond.selects RX6 yX6_allPages yX6_allPages, Cond.code yX6_allPages cX6_allPages 3 (some .int), Cond.methodLink RX6 127 yX6_takeInput, Cond.instanceMethod yX6_takeInput, Cond.selects RX6 yX6_takeInput yX6_takeInput, Cond.code yX6_takeInput cX6_takeInput 3 (some .int), Cond.fieldLink RX6 38 "RewindBoxModel" "inputs" "[I", Cond.methodLink RX6 130 yX6_note, Cond.instanceMethod yX6_note, Cond.selects RX6 yX6_note yX6_note, Cond.code yX6_note cX6_note 3 none]
def wsX6_step : List Cond := .code yX6_step cX6_step 5 (some .int) :: ((wsX6_step_r1 ++ (wsX6_step_r2 ++ (wsX6_step_r3 ++ wsX6_step_r4))) ++ wsX60)
def wsX6_isThere : List Cond := .code yX6_isThere cX6_isThere 2 (some .boolean) :: ([.fieldLink RX6 45 "RewindBoxModel" "records" "Z", .fieldLink RX6 71 "RewindBoxModel" "end" "I"] ++ wsX60)
def wsX6_go_r1 : List Cond := [Cond.fieldLink RX6 65 "RewindBoxModel" "position" "I", Cond.methodLink RX6 140 yX6_isThere, Cond.instanceMethod yX6_isThere, Cond.selects RX6 yX6_isThere yX6_isThere, Cond.initialized RX6, Cond.code yX6_isThere cX6_isThere 2 (some .boolean), Cond.fieldLink RX6 45 "RewindBoxModel" "records" "Z", Cond.fieldLink RX6 71 "RewindBoxModel" "end" "I", Cond.methodLink RX6 86 yX6_rewind, Cond.instanceMethod yX6_rewind, Cond.selects RX6 yX6_rewind yX6_rewind, Cond.code yX6_rewind cX6_rewind 2 none, Cond.fieldLink RX6 13 "RewindBoxModel" "memory" "[I", Cond.fieldLink RX6 7 "RewindBoxModel" "first" "[I", Cond.fieldLink RX6 16 "RewindBoxModel" "registers" "[I", Cond.fieldLink RX6 34 "RewindBoxModel" "written" "[Z", Cond.fieldLink RX6 53 "RewindBoxModel" "pc" "I", Cond.fieldLink RX6 56 "RewindBoxModel" "back" "I", Cond.fieldLink RX6 59 "RewindBoxModel" "open" "Z", Cond.fieldLink RX6 62 "RewindBoxModel" "sent" "I", Cond.fieldLink RX6 68 "RewindBoxModel" "passed" "I", Cond.methodLink RX6 133 yX6_again, Cond.instanceMethod yX6_again, Cond.selects RX6 yX6_again yX6_again]
def wsX6_go_r2 : List Cond := [Cond.code yX6_again cX6_again 3 none, Cond.fieldLink RX6 74 "RewindBoxModel" "entries" "I", Cond.fieldLink RX6 22 "RewindBoxModel" "logAt" "[I", Cond.fieldLink RX6 28 "RewindBoxModel" "logInput" "[I", Cond.fieldLink RX6 25 "RewindBoxModel" "logKind" "[I", Cond.methodLink RX6 107 yX6_interrupt, Cond.instanceMethod yX6_interrupt, Cond.selects RX6 yX6_interrupt yX6_interrupt, Cond.code yX6_interrupt cX6_interrupt 1 none, Cond.methodLink RX6 110 yX6_instruct, Cond.instanceMethod yX6_instruct, Cond.selects RX6 yX6_instruct yX6_instruct, Cond.code yX6_instruct cX6_instruct 3 none, Cond.methodLink RX6 101 yX6_move, Cond.instanceMethod yX6_move, Cond.selects RX6 yX6_move yX6_move, Cond.code yX6_move cX6_move 6 none, Cond.methodLink RX6 104 yX6_work, Cond.instanceMethod yX6_work, Cond.selects RX6 yX6_work yX6_work, Cond.code yX6_work cX6_work 6 none, Cond.methodLink RX6 89 yX6_meant, Cond.instanceMethod yX6_meant, Cond.selects RX6 yX6_meant yX6_meant]
def wsX6_go_r3 : List Cond := [Cond.code yX6_meant cX6_meant 2 (some .int), Cond.methodLink RX6 93 yX6_write, Cond.instanceMethod yX6_write, Cond.selects RX6 yX6_write yX6_write, Cond.code yX6_write cX6_write 3 none, Cond.methodLink RX6 97 yX6_send, Cond.instanceMethod yX6_send, Cond.selects RX6 yX6_send yX6_send, Cond.code yX6_send cX6_send 2 none, Cond.fieldLink RX6 19 "RewindBoxModel" "kept" "[I", Cond.methodLink RX6 113 yX6_pass, Cond.instanceMethod yX6_pass, Cond.selects RX6 yX6_pass yX6_pass, Cond.code yX6_pass cX6_pass 2 none, Cond.fieldLink RX6 41 "RewindBoxModel" "interval" "I"]
def wsX6_go : List Cond := .code yX6_go cX6_go 2 (some .boolean) :: ((wsX6_go_r1 ++ (wsX6_go_r2 ++ wsX6_go_r3)) ++ wsX60)
def wsX6_far : List Cond := .code yX6_far cX6_far 2 (some .int) :: ([.fieldLink RX6 41 "RewindBoxModel" "interval" "I", .methodLink RX6 140 yX6_isThere, .instanceMethod yX6_isThere, .selects RX6 yX6_isThere yX6_isThere, .initialized RX6, .code yX6_isThere cX6_isThere 2 (some .boolean), .fieldLink RX6 45 "RewindBoxModel" "records" "Z", .fieldLink RX6 71 "RewindBoxModel" "end" "I"] ++ wsX60)
def wsX6_cut : List Cond := .code yX6_cut cX6_cut 1 (some .int) :: ([.fieldLink RX6 45 "RewindBoxModel" "records" "Z", .fieldLink RX6 65 "RewindBoxModel" "position" "I", .fieldLink RX6 71 "RewindBoxModel" "end" "I", .fieldLink RX6 68 "RewindBoxModel" "passed" "I", .fieldLink RX6 74 "RewindBoxModel" "entries" "I", .fieldLink RX6 41 "RewindBoxModel" "interval" "I", .fieldLink RX6 77 "RewindBoxModel" "snapshots" "I"] ++ wsX60)
def wsX6_record : List Cond := .code yX6_record cX6_record 2 (some .int) :: ([.fieldLink RX6 45 "RewindBoxModel" "records" "Z", .fieldLink RX6 65 "RewindBoxModel" "position" "I", .fieldLink RX6 71 "RewindBoxModel" "end" "I", .fieldLink RX6 74 "RewindBoxModel" "entries" "I", .fieldLink RX6 77 "RewindBoxModel" "snapshots" "I", .fieldLink RX6 80 "RewindBoxModel" "waiting" "I", .fieldLink RX6 83 "RewindBoxModel" "rang" "Z", .methodLink RX6 120 yX6_allPages, .instanceMethod yX6_allPages, .selects RX6 yX6_allPages yX6_allPages, .initialized RX6, .code yX6_allPages cX6_allPages 3 (some .int), .fieldLink RX6 31 "RewindBoxModel" "pagesOf" "[I"] ++ wsX60)
def wsX6_pages : List Cond := .code yX6_pages cX6_pages 2 (some .int) :: ([.fieldLink RX6 45 "RewindBoxModel" "records" "Z", .fieldLink RX6 77 "RewindBoxModel" "snapshots" "I", .fieldLink RX6 31 "RewindBoxModel" "pagesOf" "[I"] ++ wsX60)
def wsX6_log : List Cond := .code yX6_log cX6_log 3 (some .int) :: ([.fieldLink RX6 45 "RewindBoxModel" "records" "Z", .fieldLink RX6 74 "RewindBoxModel" "entries" "I", .fieldLink RX6 22 "RewindBoxModel" "logAt" "[I", .fieldLink RX6 25 "RewindBoxModel" "logKind" "[I", .fieldLink RX6 28 "RewindBoxModel" "logInput" "[I"] ++ wsX60)
def wsX6_register : List Cond := .code yX6_register cX6_register 2 (some .int) :: ([.fieldLink RX6 16 "RewindBoxModel" "registers" "[I", .fieldLink RX6 53 "RewindBoxModel" "pc" "I", .fieldLink RX6 56 "RewindBoxModel" "back" "I", .fieldLink RX6 59 "RewindBoxModel" "open" "Z"] ++ wsX60)
def wsX6_word : List Cond := .code yX6_word cX6_word 2 (some .int) :: ([.fieldLink RX6 13 "RewindBoxModel" "memory" "[I", .methodLink RX6 49 yX6_isPlace, .static yX6_isPlace, .initialized RX6, .code yX6_isPlace cX6_isPlace 1 (some .boolean)] ++ wsX60)
def wsX6_outs : List Cond := .code yX6_outs cX6_outs 1 (some .int) :: ([.fieldLink RX6 62 "RewindBoxModel" "sent" "I"] ++ wsX60)
def wsX6_out : List Cond := .code yX6_out cX6_out 2 (some .int) :: ([.fieldLink RX6 62 "RewindBoxModel" "sent" "I", .fieldLink RX6 19 "RewindBoxModel" "kept" "[I"] ++ wsX60)
def wsJ9_max_7cf53 : List Cond := .code yJ9_max_7cf53 cJ9_max_7cf53 2 (some .int) :: ([])
def wsJ9_min_7cf53 : List Cond := .code yJ9_min_7cf53 cJ9_min_7cf53 2 (some .int) :: ([])
def wsL_cell : List Cond := .code yL_cell cL_cell 2 (some .int) :: ([])
abbrev vwCl : List vw_C := [(RX0, TX0, 3), (RX1, TX1, 4), (RX2, TX2, 8), (RX3, TX3, 7), (RX4, TX4, 5), (RX5, TX5, 9), (RX6, TX6, 23)]
end
section
theorem dX0_init_0 : decode cX0_init 0 = .ok (.aload_n 0, 1) := by decide +kernel
theorem dX0_init_1 : decode cX0_init 1 = .ok (.invokespecial 3, 3) := by decide +kernel
theorem dX0_init_4 : decode cX0_init 4 = .ok (.aload_n 0, 1) := by decide +kernel
theorem dX0_init_5 : decode cX0_init 5 = .ok (.bipush 100, 2) := by decide +kernel
theorem dX0_init_7 : decode cX0_init 7 = .ok (.newarray .int, 2) := by decide +kernel
theorem dX0_init_9 : decode cX0_init 9 = .ok (.putfield 9, 3) := by decide +kernel
theorem dX0_init_12 : decode cX0_init 12 = .ok (.return_, 1) := by decide +kernel
theorem dX0_clear_0 : decode cX0_clear 0 = .ok (.aload_n 0, 1) := by decide +kernel
theorem dX0_clear_1 : decode cX0_clear 1 = .ok (.iconst 0, 1) := by decide +kernel
theorem dX0_clear_2 : decode cX0_clear 2 = .ok (.putfield 15, 3) := by decide +kernel
theorem dX0_clear_5 : decode cX0_clear 5 = .ok (.aload_n 0, 1) := by decide +kernel
theorem dX0_clear_6 : decode cX0_clear 6 = .ok (.iconst 0, 1) := by decide +kernel
theorem dX0_clear_7 : decode cX0_clear 7 = .ok (.putfield 19, 3) := by decide +kernel
theorem dX0_clear_10 : decode cX0_clear 10 = .ok (.return_, 1) := by decide +kernel
theorem dX0_add_0 : decode cX0_add 0 = .ok (.aload_n 0, 1) := by decide +kernel
theorem dX0_add_1 : decode cX0_add 1 = .ok (.getfield 9, 3) := by decide +kernel
theorem dX0_add_4 : decode cX0_add 4 = .ok (.aload_n 0, 1) := by decide +kernel
theorem dX0_add_5 : decode cX0_add 5 = .ok (.getfield 15, 3) := by decide +kernel
theorem dX0_add_8 : decode cX0_add 8 = .ok (.aload_n 0, 1) := by decide +kernel
theorem dX0_add_9 : decode cX0_add 9 = .ok (.getfield 19, 3) := by decide +kernel
theorem dX0_add_12 : decode cX0_add 12 = .ok (.iadd, 1) := by decide +kernel
theorem dX0_add_13 : decode cX0_add 13 = .ok (.bipush 100, 2) := by decide +kernel
theorem dX0_add_15 : decode cX0_add 15 = .ok (.irem, 1) := by decide +kernel
theorem dX0_add_16 : decode cX0_add 16 = .ok (.iload_n 1, 1) := by decide +kernel
theorem dX0_add_17 : decode cX0_add 17 = .ok (.iastore, 1) := by decide +kernel
theorem dX0_add_18 : decode cX0_add 18 = .ok (.aload_n 0, 1) := by decide +kernel
theorem dX0_add_19 : decode cX0_add 19 = .ok (.dup, 1) := by decide +kernel
theorem dX0_add_20 : decode cX0_add 20 = .ok (.getfield 19, 3) := by decide +kernel
theorem dX0_add_23 : decode cX0_add 23 = .ok (.iconst 1, 1) := by decide +kernel
theorem dX0_add_24 : decode cX0_add 24 = .ok (.iadd, 1) := by decide +kernel
theorem dX0_add_25 : decode cX0_add 25 = .ok (.putfield 19, 3) := by decide +kernel
theorem dX0_add_28 : decode cX0_add 28 = .ok (.return_, 1) := by decide +kernel
theorem dX0_take_0 : decode cX0_take 0 = .ok (.aload_n 0, 1) := by decide +kernel
theorem dX0_take_1 : decode cX0_take 1 = .ok (.getfield 9, 3) := by decide +kernel
theorem dX0_take_4 : decode cX0_take 4 = .ok (.aload_n 0, 1) := by decide +kernel
theorem dX0_take_5 : decode cX0_take 5 = .ok (.getfield 15, 3) := by decide +kernel
theorem dX0_take_8 : decode cX0_take 8 = .ok (.iaload, 1) := by decide +kernel
theorem dX0_take_9 : decode cX0_take 9 = .ok (.istore_n 1, 1) := by decide +kernel
theorem dX0_take_10 : decode cX0_take 10 = .ok (.aload_n 0, 1) := by decide +kernel
theorem dX0_take_11 : decode cX0_take 11 = .ok (.aload_n 0, 1) := by decide +kernel
theorem dX0_take_12 : decode cX0_take 12 = .ok (.getfield 15, 3) := by decide +kernel
theorem dX0_take_15 : decode cX0_take 15 = .ok (.iconst 1, 1) := by decide +kernel
theorem dX0_take_16 : decode cX0_take 16 = .ok (.iadd, 1) := by decide +kernel
theorem dX0_take_17 : decode cX0_take 17 = .ok (.bipush 100, 2) := by decide +kernel
theorem dX0_take_19 : decode cX0_take 19 = .ok (.irem, 1) := by decide +kernel
theorem dX0_take_20 : decode cX0_take 20 = .ok (.putfield 15, 3) := by decide +kernel
theorem dX0_take_23 : decode cX0_take 23 = .ok (.aload_n 0, 1) := by decide +kernel
theorem dX0_take_24 : decode cX0_take 24 = .ok (.dup, 1) := by decide +kernel
theorem dX0_take_25 : decode cX0_take 25 = .ok (.getfield 19, 3) := by decide +kernel
theorem dX0_take_28 : decode cX0_take 28 = .ok (.iconst 1, 1) := by decide +kernel
theorem dX0_take_29 : decode cX0_take 29 = .ok (.isub, 1) := by decide +kernel
theorem dX0_take_30 : decode cX0_take 30 = .ok (.putfield 19, 3) := by decide +kernel
theorem dX0_take_33 : decode cX0_take 33 = .ok (.iload_n 1, 1) := by decide +kernel
theorem dX0_take_34 : decode cX0_take 34 = .ok (.ireturn, 1) := by decide +kernel
theorem dX1_init_0 : decode cX1_init 0 = .ok (.aload_n 0, 1) := by decide +kernel
theorem dX1_init_1 : decode cX1_init 1 = .ok (.invokespecial 3, 3) := by decide +kernel
theorem dX1_init_4 : decode cX1_init 4 = .ok (.aload_n 0, 1) := by decide +kernel
theorem dX1_init_5 : decode cX1_init 5 = .ok (.sipush 300, 3) := by decide +kernel
theorem dX1_init_8 : decode cX1_init 8 = .ok (.newarray .int, 2) := by decide +kernel
theorem dX1_init_10 : decode cX1_init 10 = .ok (.putfield 9, 3) := by decide +kernel
theorem dX1_init_13 : decode cX1_init 13 = .ok (.aload_n 0, 1) := by decide +kernel
theorem dX1_init_14 : decode cX1_init 14 = .ok (.sipush 300, 3) := by decide +kernel
theorem dX1_init_17 : decode cX1_init 17 = .ok (.newarray .int, 2) := by decide +kernel
theorem dX1_init_19 : decode cX1_init 19 = .ok (.putfield 15, 3) := by decide +kernel
theorem dX1_init_22 : decode cX1_init 22 = .ok (.aload_n 0, 1) := by decide +kernel
theorem dX1_init_23 : decode cX1_init 23 = .ok (.sipush 300, 3) := by decide +kernel
theorem dX1_init_26 : decode cX1_init 26 = .ok (.newarray .int, 2) := by decide +kernel
theorem dX1_init_28 : decode cX1_init 28 = .ok (.putfield 18, 3) := by decide +kernel
theorem dX1_init_31 : decode cX1_init 31 = .ok (.return_, 1) := by decide +kernel
theorem dX1_add_0 : decode cX1_add 0 = .ok (.aload_n 0, 1) := by decide +kernel
theorem dX1_add_1 : decode cX1_add 1 = .ok (.getfield 9, 3) := by decide +kernel
theorem dX1_add_4 : decode cX1_add 4 = .ok (.aload_n 0, 1) := by decide +kernel
theorem dX1_add_5 : decode cX1_add 5 = .ok (.getfield 21, 3) := by decide +kernel
theorem dX1_add_8 : decode cX1_add 8 = .ok (.iload_n 1, 1) := by decide +kernel
theorem dX1_add_9 : decode cX1_add 9 = .ok (.iastore, 1) := by decide +kernel
theorem dX1_add_10 : decode cX1_add 10 = .ok (.aload_n 0, 1) := by decide +kernel
theorem dX1_add_11 : decode cX1_add 11 = .ok (.getfield 15, 3) := by decide +kernel
theorem dX1_add_14 : decode cX1_add 14 = .ok (.aload_n 0, 1) := by decide +kernel
theorem dX1_add_15 : decode cX1_add 15 = .ok (.getfield 21, 3) := by decide +kernel
theorem dX1_add_18 : decode cX1_add 18 = .ok (.iload_n 2, 1) := by decide +kernel
theorem dX1_add_19 : decode cX1_add 19 = .ok (.iastore, 1) := by decide +kernel
theorem dX1_add_20 : decode cX1_add 20 = .ok (.aload_n 0, 1) := by decide +kernel
theorem dX1_add_21 : decode cX1_add 21 = .ok (.getfield 18, 3) := by decide +kernel
theorem dX1_add_24 : decode cX1_add 24 = .ok (.aload_n 0, 1) := by decide +kernel
theorem dX1_add_25 : decode cX1_add 25 = .ok (.getfield 21, 3) := by decide +kernel
theorem dX1_add_28 : decode cX1_add 28 = .ok (.iload_n 3, 1) := by decide +kernel
theorem dX1_add_29 : decode cX1_add 29 = .ok (.iastore, 1) := by decide +kernel
theorem dX1_add_30 : decode cX1_add 30 = .ok (.aload_n 0, 1) := by decide +kernel
theorem dX1_add_31 : decode cX1_add 31 = .ok (.dup, 1) := by decide +kernel
theorem dX1_add_32 : decode cX1_add 32 = .ok (.getfield 21, 3) := by decide +kernel
theorem dX1_add_35 : decode cX1_add 35 = .ok (.iconst 1, 1) := by decide +kernel
theorem dX1_add_36 : decode cX1_add 36 = .ok (.iadd, 1) := by decide +kernel
theorem dX1_add_37 : decode cX1_add 37 = .ok (.putfield 21, 3) := by decide +kernel
theorem dX1_add_40 : decode cX1_add 40 = .ok (.return_, 1) := by decide +kernel
theorem dX1_countBefore_0 : decode cX1_countBefore 0 = .ok (.iconst 0, 1) := by decide +kernel
theorem dX1_countBefore_1 : decode cX1_countBefore 1 = .ok (.istore_n 2, 1) := by decide +kernel
theorem dX1_countBefore_2 : decode cX1_countBefore 2 = .ok (.sipush 256, 3) := by decide +kernel
theorem dX1_countBefore_5 : decode cX1_countBefore 5 = .ok (.istore_n 3, 1) := by decide +kernel
theorem dX1_countBefore_6 : decode cX1_countBefore 6 = .ok (.iload_n 3, 1) := by decide +kernel
theorem dX1_countBefore_7 : decode cX1_countBefore 7 = .ok (.ifCond .le 40, 3) := by decide +kernel
theorem dX1_countBefore_10 : decode cX1_countBefore 10 = .ok (.iload_n 2, 1) := by decide +kernel
theorem dX1_countBefore_11 : decode cX1_countBefore 11 = .ok (.iload_n 3, 1) := by decide +kernel
theorem dX1_countBefore_12 : decode cX1_countBefore 12 = .ok (.iadd, 1) := by decide +kernel
theorem dX1_countBefore_13 : decode cX1_countBefore 13 = .ok (.istore 4, 2) := by decide +kernel
theorem dX1_countBefore_15 : decode cX1_countBefore 15 = .ok (.iload 4, 2) := by decide +kernel
theorem dX1_countBefore_17 : decode cX1_countBefore 17 = .ok (.aload_n 0, 1) := by decide +kernel
theorem dX1_countBefore_18 : decode cX1_countBefore 18 = .ok (.getfield 21, 3) := by decide +kernel
theorem dX1_countBefore_21 : decode cX1_countBefore 21 = .ok (.if_icmp .gt 19, 3) := by decide +kernel
theorem dX1_countBefore_24 : decode cX1_countBefore 24 = .ok (.aload_n 0, 1) := by decide +kernel
theorem dX1_countBefore_25 : decode cX1_countBefore 25 = .ok (.getfield 9, 3) := by decide +kernel
theorem dX1_countBefore_28 : decode cX1_countBefore 28 = .ok (.iload 4, 2) := by decide +kernel
theorem dX1_countBefore_30 : decode cX1_countBefore 30 = .ok (.iconst 1, 1) := by decide +kernel
theorem dX1_countBefore_31 : decode cX1_countBefore 31 = .ok (.isub, 1) := by decide +kernel
theorem dX1_countBefore_32 : decode cX1_countBefore 32 = .ok (.iaload, 1) := by decide +kernel
theorem dX1_countBefore_33 : decode cX1_countBefore 33 = .ok (.iload_n 1, 1) := by decide +kernel
theorem dX1_countBefore_34 : decode cX1_countBefore 34 = .ok (.if_icmp .ge 6, 3) := by decide +kernel
theorem dX1_countBefore_37 : decode cX1_countBefore 37 = .ok (.iload 4, 2) := by decide +kernel
theorem dX1_countBefore_39 : decode cX1_countBefore 39 = .ok (.istore_n 2, 1) := by decide +kernel
theorem dX1_countBefore_40 : decode cX1_countBefore 40 = .ok (.iload_n 3, 1) := by decide +kernel
theorem dX1_countBefore_41 : decode cX1_countBefore 41 = .ok (.iconst 2, 1) := by decide +kernel
theorem dX1_countBefore_42 : decode cX1_countBefore 42 = .ok (.idiv, 1) := by decide +kernel
theorem dX1_countBefore_43 : decode cX1_countBefore 43 = .ok (.istore_n 3, 1) := by decide +kernel
theorem dX1_countBefore_44 : decode cX1_countBefore 44 = .ok (.goto (-38), 3) := by decide +kernel
theorem dX1_countBefore_47 : decode cX1_countBefore 47 = .ok (.iload_n 2, 1) := by decide +kernel
theorem dX1_countBefore_48 : decode cX1_countBefore 48 = .ok (.ireturn, 1) := by decide +kernel
theorem dX2_init_0 : decode cX2_init 0 = .ok (.aload_n 0, 1) := by decide +kernel
theorem dX2_init_1 : decode cX2_init 1 = .ok (.invokespecial 3, 3) := by decide +kernel
theorem dX2_init_4 : decode cX2_init 4 = .ok (.aload_n 0, 1) := by decide +kernel
theorem dX2_init_5 : decode cX2_init 5 = .ok (.bipush 8, 2) := by decide +kernel
theorem dX2_init_7 : decode cX2_init 7 = .ok (.newarray .int, 2) := by decide +kernel
theorem dX2_init_9 : decode cX2_init 9 = .ok (.putfield 9, 3) := by decide +kernel
theorem dX2_init_12 : decode cX2_init 12 = .ok (.aload_n 0, 1) := by decide +kernel
theorem dX2_init_13 : decode cX2_init 13 = .ok (.sipush 512, 3) := by decide +kernel
theorem dX2_init_16 : decode cX2_init 16 = .ok (.newarray .int, 2) := by decide +kernel
theorem dX2_init_18 : decode cX2_init 18 = .ok (.putfield 15, 3) := by decide +kernel
theorem dX2_init_21 : decode cX2_init 21 = .ok (.aload_n 0, 1) := by decide +kernel
theorem dX2_init_22 : decode cX2_init 22 = .ok (.bipush 64, 2) := by decide +kernel
theorem dX2_init_24 : decode cX2_init 24 = .ok (.newarray .int, 2) := by decide +kernel
theorem dX2_init_26 : decode cX2_init 26 = .ok (.putfield 18, 3) := by decide +kernel
theorem dX2_init_29 : decode cX2_init 29 = .ok (.return_, 1) := by decide +kernel
set_option maxRecDepth 20000 in
theorem ggX2_reset_J7_fill_53178 : GoodIn wsX2_reset wsJ7_fill_53178 := goodIn_r _ [10] (by decide +kernel) (by decide +kernel)
set_option maxRecDepth 20000 in
theorem gX2_reset_J7_fill_53178 : GoodIn wsX2_reset (va_wsS RX2 21 yJ7_fill_53178 wsJ7_fill_53178) := goodIn_app (goodIn_of _ (by decide +kernel)) ggX2_reset_J7_fill_53178
theorem dX2_reset_0 : decode cX2_reset 0 = .ok (.aload_n 0, 1) := by decide +kernel
theorem dX2_reset_1 : decode cX2_reset 1 = .ok (.getfield 9, 3) := by decide +kernel
theorem dX2_reset_4 : decode cX2_reset 4 = .ok (.iconst 0, 1) := by decide +kernel
theorem dX2_reset_5 : decode cX2_reset 5 = .ok (.invokestatic 21, 3) := by decide +kernel
theorem dX2_reset_8 : decode cX2_reset 8 = .ok (.aload_n 0, 1) := by decide +kernel
theorem dX2_reset_9 : decode cX2_reset 9 = .ok (.iconst 0, 1) := by decide +kernel
theorem dX2_reset_10 : decode cX2_reset 10 = .ok (.putfield 27, 3) := by decide +kernel
theorem dX2_reset_13 : decode cX2_reset 13 = .ok (.aload_n 0, 1) := by decide +kernel
theorem dX2_reset_14 : decode cX2_reset 14 = .ok (.iconst 0, 1) := by decide +kernel
theorem dX2_reset_15 : decode cX2_reset 15 = .ok (.putfield 31, 3) := by decide +kernel
theorem dX2_reset_18 : decode cX2_reset 18 = .ok (.aload_n 0, 1) := by decide +kernel
theorem dX2_reset_19 : decode cX2_reset 19 = .ok (.iconst 0, 1) := by decide +kernel
theorem dX2_reset_20 : decode cX2_reset 20 = .ok (.putfield 34, 3) := by decide +kernel
theorem dX2_reset_23 : decode cX2_reset 23 = .ok (.aload_n 0, 1) := by decide +kernel
theorem dX2_reset_24 : decode cX2_reset 24 = .ok (.iconst 0, 1) := by decide +kernel
theorem dX2_reset_25 : decode cX2_reset 25 = .ok (.putfield 38, 3) := by decide +kernel
theorem dX2_reset_28 : decode cX2_reset 28 = .ok (.aload_n 0, 1) := by decide +kernel
theorem dX2_reset_29 : decode cX2_reset 29 = .ok (.iconst 0, 1) := by decide +kernel
theorem dX2_reset_30 : decode cX2_reset 30 = .ok (.putfield 41, 3) := by decide +kernel
theorem dX2_reset_33 : decode cX2_reset 33 = .ok (.return_, 1) := by decide +kernel
theorem dX2_nextOp_0 : decode cX2_nextOp 0 = .ok (.aload_n 0, 1) := by decide +kernel
theorem dX2_nextOp_1 : decode cX2_nextOp 1 = .ok (.getfield 15, 3) := by decide +kernel
theorem dX2_nextOp_4 : decode cX2_nextOp 4 = .ok (.aload_n 0, 1) := by decide +kernel
theorem dX2_nextOp_5 : decode cX2_nextOp 5 = .ok (.getfield 27, 3) := by decide +kernel
theorem dX2_nextOp_8 : decode cX2_nextOp 8 = .ok (.iaload, 1) := by decide +kernel
theorem dX2_nextOp_9 : decode cX2_nextOp 9 = .ok (.bipush 24, 2) := by decide +kernel
theorem dX2_nextOp_11 : decode cX2_nextOp 11 = .ok (.iushr, 1) := by decide +kernel
theorem dX2_nextOp_12 : decode cX2_nextOp 12 = .ok (.ireturn, 1) := by decide +kernel
set_option maxRecDepth 20000 in
theorem ggX2_writtenWithNext_X2_nextOp : GoodIn wsX2_writtenWithNext wsX2_nextOp := goodIn_r _ [8, 2, 3, 26, 27, 28, 29, 30, 31, 32, 33] (by decide +kernel) (by decide +kernel)
set_option maxRecDepth 20000 in
theorem gX2_writtenWithNext_X2_nextOp : GoodIn wsX2_writtenWithNext (wsV RX2 44 RX2 yX2_nextOp wsX2_nextOp) := goodIn_app (goodIn_of _ (by decide +kernel)) ggX2_writtenWithNext_X2_nextOp
set_option maxRecDepth 20000 in
theorem ggX2_writtenWithNext_X2_target : GoodIn wsX2_writtenWithNext wsX2_target := goodIn_r _ [12, 13, 14, 15, 7, 16, 17, 18, 19, 20, 21, 22, 26, 27, 28, 29, 30, 31, 32, 33] (by decide +kernel) (by decide +kernel)
set_option maxRecDepth 20000 in
theorem gX2_writtenWithNext_X2_target : GoodIn wsX2_writtenWithNext (wsV RX2 48 RX2 yX2_target wsX2_target) := goodIn_app (goodIn_of _ (by decide +kernel)) ggX2_writtenWithNext_X2_target
set_option maxRecDepth 20000 in
theorem ggX2_writtenWithNext_X2_pageBit : GoodIn wsX2_writtenWithNext wsX2_pageBit := goodIn_r _ [25] (by decide +kernel) (by decide +kernel)
set_option maxRecDepth 20000 in
theorem gX2_writtenWithNext_X2_pageBit : GoodIn wsX2_writtenWithNext (va_wsS RX2 52 yX2_pageBit wsX2_pageBit) := goodIn_app (goodIn_of _ (by decide +kernel)) ggX2_writtenWithNext_X2_pageBit
theorem dX2_writtenWithNext_0 : decode cX2_writtenWithNext 0 = .ok (.aload_n 0, 1) := by decide +kernel
theorem dX2_writtenWithNext_1 : decode cX2_writtenWithNext 1 = .ok (.invokevirtual 44, 3) := by decide +kernel
theorem dX2_writtenWithNext_4 : decode cX2_writtenWithNext 4 = .ok (.bipush 8, 2) := by decide +kernel
theorem dX2_writtenWithNext_6 : decode cX2_writtenWithNext 6 = .ok (.if_icmp .ne 27, 3) := by decide +kernel
theorem dX2_writtenWithNext_9 : decode cX2_writtenWithNext 9 = .ok (.aload_n 0, 1) := by decide +kernel
theorem dX2_writtenWithNext_10 : decode cX2_writtenWithNext 10 = .ok (.getfield 41, 3) := by decide +kernel
theorem dX2_writtenWithNext_13 : decode cX2_writtenWithNext 13 = .ok (.aload_n 0, 1) := by decide +kernel
theorem dX2_writtenWithNext_14 : decode cX2_writtenWithNext 14 = .ok (.aload_n 0, 1) := by decide +kernel
theorem dX2_writtenWithNext_15 : decode cX2_writtenWithNext 15 = .ok (.getfield 15, 3) := by decide +kernel
theorem dX2_writtenWithNext_18 : decode cX2_writtenWithNext 18 = .ok (.aload_n 0, 1) := by decide +kernel
theorem dX2_writtenWithNext_19 : decode cX2_writtenWithNext 19 = .ok (.getfield 27, 3) := by decide +kernel
theorem dX2_writtenWithNext_22 : decode cX2_writtenWithNext 22 = .ok (.iaload, 1) := by decide +kernel
theorem dX2_writtenWithNext_23 : decode cX2_writtenWithNext 23 = .ok (.invokevirtual 48, 3) := by decide +kernel
theorem dX2_writtenWithNext_26 : decode cX2_writtenWithNext 26 = .ok (.invokestatic 52, 3) := by decide +kernel
theorem dX2_writtenWithNext_29 : decode cX2_writtenWithNext 29 = .ok (.ior, 1) := by decide +kernel
theorem dX2_writtenWithNext_30 : decode cX2_writtenWithNext 30 = .ok (.goto 7, 3) := by decide +kernel
theorem dX2_writtenWithNext_33 : decode cX2_writtenWithNext 33 = .ok (.aload_n 0, 1) := by decide +kernel
theorem dX2_writtenWithNext_34 : decode cX2_writtenWithNext 34 = .ok (.getfield 41, 3) := by decide +kernel
theorem dX2_writtenWithNext_37 : decode cX2_writtenWithNext 37 = .ok (.ireturn, 1) := by decide +kernel
theorem dX2_takeRing_0 : decode cX2_takeRing 0 = .ok (.aload_n 0, 1) := by decide +kernel
theorem dX2_takeRing_1 : decode cX2_takeRing 1 = .ok (.aload_n 0, 1) := by decide +kernel
theorem dX2_takeRing_2 : decode cX2_takeRing 2 = .ok (.getfield 27, 3) := by decide +kernel
theorem dX2_takeRing_5 : decode cX2_takeRing 5 = .ok (.putfield 31, 3) := by decide +kernel
theorem dX2_takeRing_8 : decode cX2_takeRing 8 = .ok (.aload_n 0, 1) := by decide +kernel
theorem dX2_takeRing_9 : decode cX2_takeRing 9 = .ok (.bipush 8, 2) := by decide +kernel
theorem dX2_takeRing_11 : decode cX2_takeRing 11 = .ok (.putfield 27, 3) := by decide +kernel
theorem dX2_takeRing_14 : decode cX2_takeRing 14 = .ok (.aload_n 0, 1) := by decide +kernel
theorem dX2_takeRing_15 : decode cX2_takeRing 15 = .ok (.iconst 0, 1) := by decide +kernel
theorem dX2_takeRing_16 : decode cX2_takeRing 16 = .ok (.putfield 34, 3) := by decide +kernel
theorem dX2_takeRing_19 : decode cX2_takeRing 19 = .ok (.return_, 1) := by decide +kernel
set_option maxRecDepth 20000 in
theorem ggX2_perform_X2_fieldA : GoodIn wsX2_perform wsX2_fieldA := goodIn_r _ [8] (by decide +kernel) (by decide +kernel)
set_option maxRecDepth 20000 in
theorem gX2_perform_X2_fieldA : GoodIn wsX2_perform (va_wsS RX2 55 yX2_fieldA wsX2_fieldA) := goodIn_app (goodIn_of _ (by decide +kernel)) ggX2_perform_X2_fieldA
set_option maxRecDepth 20000 in
theorem ggX2_perform_X5_placeOf : GoodIn wsX2_perform wsX5_placeOf := goodIn_r _ [11] (by decide +kernel) (by decide +kernel)
set_option maxRecDepth 20000 in
theorem gX2_perform_X5_placeOf_n58 : GoodIn wsX2_perform (wsX5_placeOf) := ggX2_perform_X5_placeOf
set_option maxRecDepth 20000 in
theorem ggX2_perform_X2_fieldB : GoodIn wsX2_perform wsX2_fieldB := goodIn_r _ [14] (by decide +kernel) (by decide +kernel)
set_option maxRecDepth 20000 in
theorem gX2_perform_X2_fieldB : GoodIn wsX2_perform (va_wsS RX2 61 yX2_fieldB wsX2_fieldB) := goodIn_app (goodIn_of _ (by decide +kernel)) ggX2_perform_X2_fieldB
set_option maxRecDepth 20000 in
theorem ggX2_perform_X2_fieldC : GoodIn wsX2_perform wsX2_fieldC := goodIn_r _ [17] (by decide +kernel) (by decide +kernel)
set_option maxRecDepth 20000 in
theorem gX2_perform_X2_fieldC : GoodIn wsX2_perform (va_wsS RX2 64 yX2_fieldC wsX2_fieldC) := goodIn_app (goodIn_of _ (by decide +kernel)) ggX2_perform_X2_fieldC
set_option maxRecDepth 20000 in
theorem ggX2_perform_X2_compute : GoodIn wsX2_perform wsX2_compute := goodIn_r _ [20] (by decide +kernel) (by decide +kernel)
set_option maxRecDepth 20000 in
theorem gX2_perform_X2_compute : GoodIn wsX2_perform (va_wsS RX2 67 yX2_compute wsX2_compute) := goodIn_app (goodIn_of _ (by decide +kernel)) ggX2_perform_X2_compute
set_option maxRecDepth 20000 in
theorem ggX2_perform_X2_signedHalf : GoodIn wsX2_perform wsX2_signedHalf := goodIn_r _ [23] (by decide +kernel) (by decide +kernel)
set_option maxRecDepth 20000 in
theorem gX2_perform_X2_signedHalf : GoodIn wsX2_perform (va_wsS RX2 71 yX2_signedHalf wsX2_signedHalf) := goodIn_app (goodIn_of _ (by decide +kernel)) ggX2_perform_X2_signedHalf
set_option maxRecDepth 20000 in
theorem ggX2_perform_X2_target : GoodIn wsX2_perform wsX2_target := goodIn_r _ [27, 3, 12, 13, 7, 14, 28, 29, 30, 9, 10, 11, 50, 51, 52, 53, 54, 55, 56, 57] (by decide +kernel) (by decide +kernel)
set_option maxRecDepth 20000 in
theorem gX2_perform_X2_target : GoodIn wsX2_perform (wsV RX2 48 RX2 yX2_target wsX2_target) := goodIn_app (goodIn_of _ (by decide +kernel)) ggX2_perform_X2_target
set_option maxRecDepth 20000 in
theorem ggX2_perform_X2_store : GoodIn wsX2_perform wsX2_store := goodIn_r _ [34, 1, 35, 36, 37, 7, 38, 50, 51, 52, 53, 54, 55, 56, 57] (by decide +kernel) (by decide +kernel)
set_option maxRecDepth 20000 in
theorem gX2_perform_X2_store : GoodIn wsX2_perform (wsV RX2 74 RX2 yX2_store wsX2_store) := goodIn_app (goodIn_of _ (by decide +kernel)) ggX2_perform_X2_store
set_option maxRecDepth 20000 in
theorem ggX2_perform_X2_putOut : GoodIn wsX2_perform wsX2_putOut := goodIn_r _ [42, 43, 44, 50, 51, 52, 53, 54, 55, 56, 57] (by decide +kernel) (by decide +kernel)
set_option maxRecDepth 20000 in
theorem gX2_perform_X2_putOut : GoodIn wsX2_perform (wsV RX2 78 RX2 yX2_putOut wsX2_putOut) := goodIn_app (goodIn_of _ (by decide +kernel)) ggX2_perform_X2_putOut
set_option maxRecDepth 20000 in
theorem ggX2_perform_X2_jump : GoodIn wsX2_perform wsX2_jump := goodIn_r _ [48, 2, 49, 4, 9, 10, 11, 50, 51, 52, 53, 54, 55, 56, 57] (by decide +kernel) (by decide +kernel)
set_option maxRecDepth 20000 in
theorem gX2_perform_X2_jump : GoodIn wsX2_perform (wsV RX2 82 RX2 yX2_jump wsX2_jump) := goodIn_app (goodIn_of _ (by decide +kernel)) ggX2_perform_X2_jump
theorem dX2_perform_0 : decode cX2_perform 0 = .ok (.aload_n 0, 1) := by decide +kernel
theorem dX2_perform_1 : decode cX2_perform 1 = .ok (.getfield 15, 3) := by decide +kernel
theorem dX2_perform_4 : decode cX2_perform 4 = .ok (.aload_n 0, 1) := by decide +kernel
theorem dX2_perform_5 : decode cX2_perform 5 = .ok (.getfield 27, 3) := by decide +kernel
theorem dX2_perform_8 : decode cX2_perform 8 = .ok (.iaload, 1) := by decide +kernel
theorem dX2_perform_9 : decode cX2_perform 9 = .ok (.istore_n 3, 1) := by decide +kernel
theorem dX2_perform_10 : decode cX2_perform 10 = .ok (.iload_n 3, 1) := by decide +kernel
theorem dX2_perform_11 : decode cX2_perform 11 = .ok (.bipush 24, 2) := by decide +kernel
theorem dX2_perform_13 : decode cX2_perform 13 = .ok (.iushr, 1) := by decide +kernel
theorem dX2_perform_14 : decode cX2_perform 14 = .ok (.istore 4, 2) := by decide +kernel
theorem dX2_perform_16 : decode cX2_perform 16 = .ok (.iload_n 3, 1) := by decide +kernel
theorem dX2_perform_17 : decode cX2_perform 17 = .ok (.invokestatic 55, 3) := by decide +kernel
theorem dX2_perform_20 : decode cX2_perform 20 = .ok (.istore 5, 2) := by decide +kernel
theorem dX2_perform_22 : decode cX2_perform 22 = .ok (.aload_n 0, 1) := by decide +kernel
theorem dX2_perform_23 : decode cX2_perform 23 = .ok (.aload_n 0, 1) := by decide +kernel
theorem dX2_perform_24 : decode cX2_perform 24 = .ok (.getfield 27, 3) := by decide +kernel
theorem dX2_perform_27 : decode cX2_perform 27 = .ok (.iconst 1, 1) := by decide +kernel
theorem dX2_perform_28 : decode cX2_perform 28 = .ok (.iadd, 1) := by decide +kernel
theorem dX2_perform_29 : decode cX2_perform 29 = .ok (.invokestatic 58, 3) := by decide +kernel
theorem dX2_perform_32 : decode cX2_perform 32 = .ok (.putfield 27, 3) := by decide +kernel
theorem dX2_perform_35 : decode cX2_perform 35 = .ok (.iload 4, 2) := by decide +kernel
theorem dX2_perform_37 : decode cX2_perform 37 = .ok (.tableswitch 221 1 17 #[83, 83, 83, 83, 83, 116, 130, 150, 221, 221, 221, 169, 180, 194, 221, 205, 213], 83) := by decide +kernel
theorem dX2_perform_120 : decode cX2_perform 120 = .ok (.aload_n 0, 1) := by decide +kernel
theorem dX2_perform_121 : decode cX2_perform 121 = .ok (.getfield 9, 3) := by decide +kernel
theorem dX2_perform_124 : decode cX2_perform 124 = .ok (.iload 5, 2) := by decide +kernel
theorem dX2_perform_126 : decode cX2_perform 126 = .ok (.iload 4, 2) := by decide +kernel
theorem dX2_perform_128 : decode cX2_perform 128 = .ok (.aload_n 0, 1) := by decide +kernel
theorem dX2_perform_129 : decode cX2_perform 129 = .ok (.getfield 9, 3) := by decide +kernel
theorem dX2_perform_132 : decode cX2_perform 132 = .ok (.iload_n 3, 1) := by decide +kernel
theorem dX2_perform_133 : decode cX2_perform 133 = .ok (.invokestatic 61, 3) := by decide +kernel
theorem dX2_perform_136 : decode cX2_perform 136 = .ok (.iaload, 1) := by decide +kernel
theorem dX2_perform_137 : decode cX2_perform 137 = .ok (.aload_n 0, 1) := by decide +kernel
theorem dX2_perform_138 : decode cX2_perform 138 = .ok (.getfield 9, 3) := by decide +kernel
theorem dX2_perform_141 : decode cX2_perform 141 = .ok (.iload_n 3, 1) := by decide +kernel
theorem dX2_perform_142 : decode cX2_perform 142 = .ok (.invokestatic 64, 3) := by decide +kernel
theorem dX2_perform_145 : decode cX2_perform 145 = .ok (.iaload, 1) := by decide +kernel
theorem dX2_perform_146 : decode cX2_perform 146 = .ok (.invokestatic 67, 3) := by decide +kernel
theorem dX2_perform_149 : decode cX2_perform 149 = .ok (.iastore, 1) := by decide +kernel
theorem dX2_perform_150 : decode cX2_perform 150 = .ok (.goto 128, 3) := by decide +kernel
theorem dX2_perform_153 : decode cX2_perform 153 = .ok (.aload_n 0, 1) := by decide +kernel
theorem dX2_perform_154 : decode cX2_perform 154 = .ok (.getfield 9, 3) := by decide +kernel
theorem dX2_perform_157 : decode cX2_perform 157 = .ok (.iload 5, 2) := by decide +kernel
theorem dX2_perform_159 : decode cX2_perform 159 = .ok (.iload_n 3, 1) := by decide +kernel
theorem dX2_perform_160 : decode cX2_perform 160 = .ok (.invokestatic 71, 3) := by decide +kernel
theorem dX2_perform_163 : decode cX2_perform 163 = .ok (.iastore, 1) := by decide +kernel
theorem dX2_perform_164 : decode cX2_perform 164 = .ok (.goto 114, 3) := by decide +kernel
theorem dX2_perform_167 : decode cX2_perform 167 = .ok (.aload_n 0, 1) := by decide +kernel
theorem dX2_perform_168 : decode cX2_perform 168 = .ok (.getfield 9, 3) := by decide +kernel
theorem dX2_perform_171 : decode cX2_perform 171 = .ok (.iload 5, 2) := by decide +kernel
theorem dX2_perform_173 : decode cX2_perform 173 = .ok (.aload_n 0, 1) := by decide +kernel
theorem dX2_perform_174 : decode cX2_perform 174 = .ok (.getfield 15, 3) := by decide +kernel
theorem dX2_perform_177 : decode cX2_perform 177 = .ok (.aload_n 0, 1) := by decide +kernel
theorem dX2_perform_178 : decode cX2_perform 178 = .ok (.iload_n 3, 1) := by decide +kernel
theorem dX2_perform_179 : decode cX2_perform 179 = .ok (.invokevirtual 48, 3) := by decide +kernel
theorem dX2_perform_182 : decode cX2_perform 182 = .ok (.iaload, 1) := by decide +kernel
theorem dX2_perform_183 : decode cX2_perform 183 = .ok (.iastore, 1) := by decide +kernel
theorem dX2_perform_184 : decode cX2_perform 184 = .ok (.goto 94, 3) := by decide +kernel
theorem dX2_perform_187 : decode cX2_perform 187 = .ok (.aload_n 0, 1) := by decide +kernel
theorem dX2_perform_188 : decode cX2_perform 188 = .ok (.aload_n 0, 1) := by decide +kernel
theorem dX2_perform_189 : decode cX2_perform 189 = .ok (.iload_n 3, 1) := by decide +kernel
theorem dX2_perform_190 : decode cX2_perform 190 = .ok (.invokevirtual 48, 3) := by decide +kernel
theorem dX2_perform_193 : decode cX2_perform 193 = .ok (.aload_n 0, 1) := by decide +kernel
theorem dX2_perform_194 : decode cX2_perform 194 = .ok (.getfield 9, 3) := by decide +kernel
theorem dX2_perform_197 : decode cX2_perform 197 = .ok (.iload 5, 2) := by decide +kernel
theorem dX2_perform_199 : decode cX2_perform 199 = .ok (.iaload, 1) := by decide +kernel
theorem dX2_perform_200 : decode cX2_perform 200 = .ok (.invokevirtual 74, 3) := by decide +kernel
theorem dX2_perform_203 : decode cX2_perform 203 = .ok (.goto 75, 3) := by decide +kernel
theorem dX2_perform_206 : decode cX2_perform 206 = .ok (.aload_n 0, 1) := by decide +kernel
theorem dX2_perform_207 : decode cX2_perform 207 = .ok (.getfield 9, 3) := by decide +kernel
theorem dX2_perform_210 : decode cX2_perform 210 = .ok (.iload 5, 2) := by decide +kernel
theorem dX2_perform_212 : decode cX2_perform 212 = .ok (.iload_n 2, 1) := by decide +kernel
theorem dX2_perform_213 : decode cX2_perform 213 = .ok (.iastore, 1) := by decide +kernel
theorem dX2_perform_214 : decode cX2_perform 214 = .ok (.goto 64, 3) := by decide +kernel
theorem dX2_perform_217 : decode cX2_perform 217 = .ok (.aload_n 0, 1) := by decide +kernel
theorem dX2_perform_218 : decode cX2_perform 218 = .ok (.aload_n 0, 1) := by decide +kernel
theorem dX2_perform_219 : decode cX2_perform 219 = .ok (.getfield 9, 3) := by decide +kernel
theorem dX2_perform_222 : decode cX2_perform 222 = .ok (.iload 5, 2) := by decide +kernel
theorem dX2_perform_224 : decode cX2_perform 224 = .ok (.iaload, 1) := by decide +kernel
theorem dX2_perform_225 : decode cX2_perform 225 = .ok (.invokevirtual 78, 3) := by decide +kernel
theorem dX2_perform_228 : decode cX2_perform 228 = .ok (.goto 50, 3) := by decide +kernel
theorem dX2_perform_231 : decode cX2_perform 231 = .ok (.aload_n 0, 1) := by decide +kernel
theorem dX2_perform_232 : decode cX2_perform 232 = .ok (.getfield 9, 3) := by decide +kernel
theorem dX2_perform_235 : decode cX2_perform 235 = .ok (.iload 5, 2) := by decide +kernel
theorem dX2_perform_237 : decode cX2_perform 237 = .ok (.iload_n 1, 1) := by decide +kernel
theorem dX2_perform_238 : decode cX2_perform 238 = .ok (.iastore, 1) := by decide +kernel
theorem dX2_perform_239 : decode cX2_perform 239 = .ok (.goto 39, 3) := by decide +kernel
theorem dX2_perform_242 : decode cX2_perform 242 = .ok (.aload_n 0, 1) := by decide +kernel
theorem dX2_perform_243 : decode cX2_perform 243 = .ok (.iconst 1, 1) := by decide +kernel
theorem dX2_perform_244 : decode cX2_perform 244 = .ok (.putfield 34, 3) := by decide +kernel
theorem dX2_perform_247 : decode cX2_perform 247 = .ok (.goto 31, 3) := by decide +kernel
theorem dX2_perform_250 : decode cX2_perform 250 = .ok (.aload_n 0, 1) := by decide +kernel
theorem dX2_perform_251 : decode cX2_perform 251 = .ok (.iconst 0, 1) := by decide +kernel
theorem dX2_perform_252 : decode cX2_perform 252 = .ok (.putfield 34, 3) := by decide +kernel
theorem dX2_perform_255 : decode cX2_perform 255 = .ok (.goto 23, 3) := by decide +kernel
theorem dX2_perform_258 : decode cX2_perform 258 = .ok (.aload_n 0, 1) := by decide +kernel
theorem dX2_perform_259 : decode cX2_perform 259 = .ok (.iload 4, 2) := by decide +kernel
theorem dX2_perform_261 : decode cX2_perform 261 = .ok (.aload_n 0, 1) := by decide +kernel
theorem dX2_perform_262 : decode cX2_perform 262 = .ok (.getfield 9, 3) := by decide +kernel
theorem dX2_perform_265 : decode cX2_perform 265 = .ok (.iload 5, 2) := by decide +kernel
theorem dX2_perform_267 : decode cX2_perform 267 = .ok (.iaload, 1) := by decide +kernel
theorem dX2_perform_268 : decode cX2_perform 268 = .ok (.iload_n 3, 1) := by decide +kernel
theorem dX2_perform_269 : decode cX2_perform 269 = .ok (.invokestatic 71, 3) := by decide +kernel
theorem dX2_perform_272 : decode cX2_perform 272 = .ok (.invokestatic 58, 3) := by decide +kernel
theorem dX2_perform_275 : decode cX2_perform 275 = .ok (.invokevirtual 82, 3) := by decide +kernel
theorem dX2_perform_278 : decode cX2_perform 278 = .ok (.return_, 1) := by decide +kernel
theorem dX2_compute_0 : decode cX2_compute 0 = .ok (.iload_n 0, 1) := by decide +kernel
theorem dX2_compute_1 : decode cX2_compute 1 = .ok (.tableswitch 47 1 4 #[31, 35, 39, 43], 31) := by decide +kernel
theorem dX2_compute_32 : decode cX2_compute 32 = .ok (.iload_n 1, 1) := by decide +kernel
theorem dX2_compute_33 : decode cX2_compute 33 = .ok (.iload_n 2, 1) := by decide +kernel
theorem dX2_compute_34 : decode cX2_compute 34 = .ok (.iadd, 1) := by decide +kernel
theorem dX2_compute_35 : decode cX2_compute 35 = .ok (.ireturn, 1) := by decide +kernel
theorem dX2_compute_36 : decode cX2_compute 36 = .ok (.iload_n 1, 1) := by decide +kernel
theorem dX2_compute_37 : decode cX2_compute 37 = .ok (.iload_n 2, 1) := by decide +kernel
theorem dX2_compute_38 : decode cX2_compute 38 = .ok (.isub, 1) := by decide +kernel
theorem dX2_compute_39 : decode cX2_compute 39 = .ok (.ireturn, 1) := by decide +kernel
theorem dX2_compute_40 : decode cX2_compute 40 = .ok (.iload_n 1, 1) := by decide +kernel
theorem dX2_compute_41 : decode cX2_compute 41 = .ok (.iload_n 2, 1) := by decide +kernel
theorem dX2_compute_42 : decode cX2_compute 42 = .ok (.imul, 1) := by decide +kernel
theorem dX2_compute_43 : decode cX2_compute 43 = .ok (.ireturn, 1) := by decide +kernel
theorem dX2_compute_44 : decode cX2_compute 44 = .ok (.iload_n 1, 1) := by decide +kernel
theorem dX2_compute_45 : decode cX2_compute 45 = .ok (.iload_n 2, 1) := by decide +kernel
theorem dX2_compute_46 : decode cX2_compute 46 = .ok (.iand, 1) := by decide +kernel
theorem dX2_compute_47 : decode cX2_compute 47 = .ok (.ireturn, 1) := by decide +kernel
theorem dX2_compute_48 : decode cX2_compute 48 = .ok (.iload_n 1, 1) := by decide +kernel
theorem dX2_compute_49 : decode cX2_compute 49 = .ok (.iload_n 2, 1) := by decide +kernel
theorem dX2_compute_50 : decode cX2_compute 50 = .ok (.ixor, 1) := by decide +kernel
theorem dX2_compute_51 : decode cX2_compute 51 = .ok (.ireturn, 1) := by decide +kernel
set_option maxRecDepth 20000 in
theorem ggX2_jump_X5_placeOf : GoodIn wsX2_jump wsX5_placeOf := goodIn_r _ [6] (by decide +kernel) (by decide +kernel)
set_option maxRecDepth 20000 in
theorem gX2_jump_X5_placeOf_n58 : GoodIn wsX2_jump (wsX5_placeOf) := ggX2_jump_X5_placeOf
theorem dX2_jump_0 : decode cX2_jump 0 = .ok (.iload_n 1, 1) := by decide +kernel
theorem dX2_jump_1 : decode cX2_jump 1 = .ok (.tableswitch 128 9 18 #[55, 63, 82, 128, 128, 128, 101, 128, 128, 117], 55) := by decide +kernel
theorem dX2_jump_56 : decode cX2_jump 56 = .ok (.aload_n 0, 1) := by decide +kernel
theorem dX2_jump_57 : decode cX2_jump 57 = .ok (.iload_n 3, 1) := by decide +kernel
theorem dX2_jump_58 : decode cX2_jump 58 = .ok (.putfield 27, 3) := by decide +kernel
theorem dX2_jump_61 : decode cX2_jump 61 = .ok (.goto 68, 3) := by decide +kernel
theorem dX2_jump_64 : decode cX2_jump 64 = .ok (.aload_n 0, 1) := by decide +kernel
theorem dX2_jump_65 : decode cX2_jump 65 = .ok (.iload_n 2, 1) := by decide +kernel
theorem dX2_jump_66 : decode cX2_jump 66 = .ok (.ifCond .ne 7, 3) := by decide +kernel
theorem dX2_jump_69 : decode cX2_jump 69 = .ok (.iload_n 3, 1) := by decide +kernel
theorem dX2_jump_70 : decode cX2_jump 70 = .ok (.goto 7, 3) := by decide +kernel
theorem dX2_jump_73 : decode cX2_jump 73 = .ok (.aload_n 0, 1) := by decide +kernel
theorem dX2_jump_74 : decode cX2_jump 74 = .ok (.getfield 27, 3) := by decide +kernel
theorem dX2_jump_77 : decode cX2_jump 77 = .ok (.putfield 27, 3) := by decide +kernel
theorem dX2_jump_80 : decode cX2_jump 80 = .ok (.goto 49, 3) := by decide +kernel
theorem dX2_jump_83 : decode cX2_jump 83 = .ok (.aload_n 0, 1) := by decide +kernel
theorem dX2_jump_84 : decode cX2_jump 84 = .ok (.iload_n 2, 1) := by decide +kernel
theorem dX2_jump_85 : decode cX2_jump 85 = .ok (.ifCond .ge 7, 3) := by decide +kernel
theorem dX2_jump_88 : decode cX2_jump 88 = .ok (.iload_n 3, 1) := by decide +kernel
theorem dX2_jump_89 : decode cX2_jump 89 = .ok (.goto 7, 3) := by decide +kernel
theorem dX2_jump_92 : decode cX2_jump 92 = .ok (.aload_n 0, 1) := by decide +kernel
theorem dX2_jump_93 : decode cX2_jump 93 = .ok (.getfield 27, 3) := by decide +kernel
theorem dX2_jump_96 : decode cX2_jump 96 = .ok (.putfield 27, 3) := by decide +kernel
theorem dX2_jump_99 : decode cX2_jump 99 = .ok (.goto 30, 3) := by decide +kernel
theorem dX2_jump_102 : decode cX2_jump 102 = .ok (.aload_n 0, 1) := by decide +kernel
theorem dX2_jump_103 : decode cX2_jump 103 = .ok (.aload_n 0, 1) := by decide +kernel
theorem dX2_jump_104 : decode cX2_jump 104 = .ok (.getfield 31, 3) := by decide +kernel
theorem dX2_jump_107 : decode cX2_jump 107 = .ok (.putfield 27, 3) := by decide +kernel
theorem dX2_jump_110 : decode cX2_jump 110 = .ok (.aload_n 0, 1) := by decide +kernel
theorem dX2_jump_111 : decode cX2_jump 111 = .ok (.iconst 1, 1) := by decide +kernel
theorem dX2_jump_112 : decode cX2_jump 112 = .ok (.putfield 34, 3) := by decide +kernel
theorem dX2_jump_115 : decode cX2_jump 115 = .ok (.goto 14, 3) := by decide +kernel
theorem dX2_jump_118 : decode cX2_jump 118 = .ok (.aload_n 0, 1) := by decide +kernel
theorem dX2_jump_119 : decode cX2_jump 119 = .ok (.iload_n 2, 1) := by decide +kernel
theorem dX2_jump_120 : decode cX2_jump 120 = .ok (.invokestatic 58, 3) := by decide +kernel
theorem dX2_jump_123 : decode cX2_jump 123 = .ok (.putfield 27, 3) := by decide +kernel
theorem dX2_jump_126 : decode cX2_jump 126 = .ok (.goto 3, 3) := by decide +kernel
theorem dX2_jump_129 : decode cX2_jump 129 = .ok (.return_, 1) := by decide +kernel
set_option maxRecDepth 20000 in
theorem ggX2_store_X2_pageBit : GoodIn wsX2_store wsX2_pageBit := goodIn_r _ [6] (by decide +kernel) (by decide +kernel)
set_option maxRecDepth 20000 in
theorem gX2_store_X2_pageBit : GoodIn wsX2_store (va_wsS RX2 52 yX2_pageBit wsX2_pageBit) := goodIn_app (goodIn_of _ (by decide +kernel)) ggX2_store_X2_pageBit
theorem dX2_store_0 : decode cX2_store 0 = .ok (.aload_n 0, 1) := by decide +kernel
theorem dX2_store_1 : decode cX2_store 1 = .ok (.getfield 15, 3) := by decide +kernel
theorem dX2_store_4 : decode cX2_store 4 = .ok (.iload_n 1, 1) := by decide +kernel
theorem dX2_store_5 : decode cX2_store 5 = .ok (.iload_n 2, 1) := by decide +kernel
theorem dX2_store_6 : decode cX2_store 6 = .ok (.iastore, 1) := by decide +kernel
theorem dX2_store_7 : decode cX2_store 7 = .ok (.aload_n 0, 1) := by decide +kernel
theorem dX2_store_8 : decode cX2_store 8 = .ok (.dup, 1) := by decide +kernel
theorem dX2_store_9 : decode cX2_store 9 = .ok (.getfield 41, 3) := by decide +kernel
theorem dX2_store_12 : decode cX2_store 12 = .ok (.iload_n 1, 1) := by decide +kernel
theorem dX2_store_13 : decode cX2_store 13 = .ok (.invokestatic 52, 3) := by decide +kernel
theorem dX2_store_16 : decode cX2_store 16 = .ok (.ior, 1) := by decide +kernel
theorem dX2_store_17 : decode cX2_store 17 = .ok (.putfield 41, 3) := by decide +kernel
theorem dX2_store_20 : decode cX2_store 20 = .ok (.return_, 1) := by decide +kernel
theorem dX2_putOut_0 : decode cX2_putOut 0 = .ok (.aload_n 0, 1) := by decide +kernel
theorem dX2_putOut_1 : decode cX2_putOut 1 = .ok (.getfield 38, 3) := by decide +kernel
theorem dX2_putOut_4 : decode cX2_putOut 4 = .ok (.bipush 64, 2) := by decide +kernel
theorem dX2_putOut_6 : decode cX2_putOut 6 = .ok (.if_icmp .ge 13, 3) := by decide +kernel
theorem dX2_putOut_9 : decode cX2_putOut 9 = .ok (.aload_n 0, 1) := by decide +kernel
theorem dX2_putOut_10 : decode cX2_putOut 10 = .ok (.getfield 18, 3) := by decide +kernel
theorem dX2_putOut_13 : decode cX2_putOut 13 = .ok (.aload_n 0, 1) := by decide +kernel
theorem dX2_putOut_14 : decode cX2_putOut 14 = .ok (.getfield 38, 3) := by decide +kernel
theorem dX2_putOut_17 : decode cX2_putOut 17 = .ok (.iload_n 1, 1) := by decide +kernel
theorem dX2_putOut_18 : decode cX2_putOut 18 = .ok (.iastore, 1) := by decide +kernel
theorem dX2_putOut_19 : decode cX2_putOut 19 = .ok (.aload_n 0, 1) := by decide +kernel
theorem dX2_putOut_20 : decode cX2_putOut 20 = .ok (.dup, 1) := by decide +kernel
theorem dX2_putOut_21 : decode cX2_putOut 21 = .ok (.getfield 38, 3) := by decide +kernel
theorem dX2_putOut_24 : decode cX2_putOut 24 = .ok (.iconst 1, 1) := by decide +kernel
theorem dX2_putOut_25 : decode cX2_putOut 25 = .ok (.iadd, 1) := by decide +kernel
theorem dX2_putOut_26 : decode cX2_putOut 26 = .ok (.putfield 38, 3) := by decide +kernel
theorem dX2_putOut_29 : decode cX2_putOut 29 = .ok (.return_, 1) := by decide +kernel
set_option maxRecDepth 20000 in
theorem ggX2_target_X2_fieldB : GoodIn wsX2_target wsX2_fieldB := goodIn_r _ [5] (by decide +kernel) (by decide +kernel)
set_option maxRecDepth 20000 in
theorem gX2_target_X2_fieldB : GoodIn wsX2_target (va_wsS RX2 61 yX2_fieldB wsX2_fieldB) := goodIn_app (goodIn_of _ (by decide +kernel)) ggX2_target_X2_fieldB
set_option maxRecDepth 20000 in
theorem ggX2_target_X2_signedByte : GoodIn wsX2_target wsX2_signedByte := goodIn_r _ [8] (by decide +kernel) (by decide +kernel)
set_option maxRecDepth 20000 in
theorem gX2_target_X2_signedByte : GoodIn wsX2_target (va_wsS RX2 86 yX2_signedByte wsX2_signedByte) := goodIn_app (goodIn_of _ (by decide +kernel)) ggX2_target_X2_signedByte
set_option maxRecDepth 20000 in
theorem ggX2_target_X5_placeOf : GoodIn wsX2_target wsX5_placeOf := goodIn_r _ [11] (by decide +kernel) (by decide +kernel)
set_option maxRecDepth 20000 in
theorem gX2_target_X5_placeOf_n58 : GoodIn wsX2_target (wsX5_placeOf) := ggX2_target_X5_placeOf
theorem dX2_target_0 : decode cX2_target 0 = .ok (.aload_n 0, 1) := by decide +kernel
theorem dX2_target_1 : decode cX2_target 1 = .ok (.getfield 9, 3) := by decide +kernel
theorem dX2_target_4 : decode cX2_target 4 = .ok (.iload_n 1, 1) := by decide +kernel
theorem dX2_target_5 : decode cX2_target 5 = .ok (.invokestatic 61, 3) := by decide +kernel
theorem dX2_target_8 : decode cX2_target 8 = .ok (.iaload, 1) := by decide +kernel
theorem dX2_target_9 : decode cX2_target 9 = .ok (.iload_n 1, 1) := by decide +kernel
theorem dX2_target_10 : decode cX2_target 10 = .ok (.invokestatic 86, 3) := by decide +kernel
theorem dX2_target_13 : decode cX2_target 13 = .ok (.iadd, 1) := by decide +kernel
theorem dX2_target_14 : decode cX2_target 14 = .ok (.invokestatic 58, 3) := by decide +kernel
theorem dX2_target_17 : decode cX2_target 17 = .ok (.ireturn, 1) := by decide +kernel
theorem dX2_pageBit_0 : decode cX2_pageBit 0 = .ok (.iconst 1, 1) := by decide +kernel
theorem dX2_pageBit_1 : decode cX2_pageBit 1 = .ok (.iload_n 0, 1) := by decide +kernel
theorem dX2_pageBit_2 : decode cX2_pageBit 2 = .ok (.bipush 16, 2) := by decide +kernel
theorem dX2_pageBit_4 : decode cX2_pageBit 4 = .ok (.idiv, 1) := by decide +kernel
theorem dX2_pageBit_5 : decode cX2_pageBit 5 = .ok (.ishl, 1) := by decide +kernel
theorem dX2_pageBit_6 : decode cX2_pageBit 6 = .ok (.ireturn, 1) := by decide +kernel
theorem dX2_fieldA_0 : decode cX2_fieldA 0 = .ok (.iload_n 0, 1) := by decide +kernel
theorem dX2_fieldA_1 : decode cX2_fieldA 1 = .ok (.bipush 16, 2) := by decide +kernel
theorem dX2_fieldA_3 : decode cX2_fieldA 3 = .ok (.ishr, 1) := by decide +kernel
theorem dX2_fieldA_4 : decode cX2_fieldA 4 = .ok (.bipush 7, 2) := by decide +kernel
theorem dX2_fieldA_6 : decode cX2_fieldA 6 = .ok (.iand, 1) := by decide +kernel
theorem dX2_fieldA_7 : decode cX2_fieldA 7 = .ok (.ireturn, 1) := by decide +kernel
theorem dX2_fieldB_0 : decode cX2_fieldB 0 = .ok (.iload_n 0, 1) := by decide +kernel
theorem dX2_fieldB_1 : decode cX2_fieldB 1 = .ok (.bipush 8, 2) := by decide +kernel
theorem dX2_fieldB_3 : decode cX2_fieldB 3 = .ok (.ishr, 1) := by decide +kernel
theorem dX2_fieldB_4 : decode cX2_fieldB 4 = .ok (.bipush 7, 2) := by decide +kernel
theorem dX2_fieldB_6 : decode cX2_fieldB 6 = .ok (.iand, 1) := by decide +kernel
theorem dX2_fieldB_7 : decode cX2_fieldB 7 = .ok (.ireturn, 1) := by decide +kernel
theorem dX2_fieldC_0 : decode cX2_fieldC 0 = .ok (.iload_n 0, 1) := by decide +kernel
theorem dX2_fieldC_1 : decode cX2_fieldC 1 = .ok (.bipush 7, 2) := by decide +kernel
theorem dX2_fieldC_3 : decode cX2_fieldC 3 = .ok (.iand, 1) := by decide +kernel
theorem dX2_fieldC_4 : decode cX2_fieldC 4 = .ok (.ireturn, 1) := by decide +kernel
theorem dX2_signedByte_0 : decode cX2_signedByte 0 = .ok (.iload_n 0, 1) := by decide +kernel
theorem dX2_signedByte_1 : decode cX2_signedByte 1 = .ok (.i2b, 1) := by decide +kernel
theorem dX2_signedByte_2 : decode cX2_signedByte 2 = .ok (.ireturn, 1) := by decide +kernel
theorem dX2_signedHalf_0 : decode cX2_signedHalf 0 = .ok (.iload_n 0, 1) := by decide +kernel
theorem dX2_signedHalf_1 : decode cX2_signedHalf 1 = .ok (.i2s, 1) := by decide +kernel
theorem dX2_signedHalf_2 : decode cX2_signedHalf 2 = .ok (.ireturn, 1) := by decide +kernel
theorem dX3_init_0 : decode cX3_init 0 = .ok (.aload_n 0, 1) := by decide +kernel
theorem dX3_init_1 : decode cX3_init 1 = .ok (.invokespecial 3, 3) := by decide +kernel
theorem dX3_init_4 : decode cX3_init 4 = .ok (.aload_n 0, 1) := by decide +kernel
theorem dX3_init_5 : decode cX3_init 5 = .ok (.bipush 8, 2) := by decide +kernel
theorem dX3_init_7 : decode cX3_init 7 = .ok (.newarray .int, 2) := by decide +kernel
theorem dX3_init_9 : decode cX3_init 9 = .ok (.putfield 9, 3) := by decide +kernel
theorem dX3_init_12 : decode cX3_init 12 = .ok (.return_, 1) := by decide +kernel
set_option maxRecDepth 20000 in
theorem ggX3_pageCount_J6_bitCount_0f7a4 : GoodIn wsX3_pageCount wsJ6_bitCount_0f7a4 := goodIn_r _ [5, 6, 7, 8] (by decide +kernel) (by decide +kernel)
set_option maxRecDepth 20000 in
theorem gX3_pageCount_J6_bitCount_0f7a4 : GoodIn wsX3_pageCount (va_wsS RX3 19 yJ6_bitCount_0f7a4 wsJ6_bitCount_0f7a4) := goodIn_app (goodIn_of _ (by decide +kernel)) ggX3_pageCount_J6_bitCount_0f7a4
theorem dX3_pageCount_0 : decode cX3_pageCount 0 = .ok (.aload_n 0, 1) := by decide +kernel
theorem dX3_pageCount_1 : decode cX3_pageCount 1 = .ok (.getfield 15, 3) := by decide +kernel
theorem dX3_pageCount_4 : decode cX3_pageCount 4 = .ok (.invokestatic 19, 3) := by decide +kernel
theorem dX3_pageCount_7 : decode cX3_pageCount 7 = .ok (.ireturn, 1) := by decide +kernel
theorem dX3_hasPage_0 : decode cX3_hasPage 0 = .ok (.aload_n 0, 1) := by decide +kernel
theorem dX3_hasPage_1 : decode cX3_hasPage 1 = .ok (.getfield 15, 3) := by decide +kernel
theorem dX3_hasPage_4 : decode cX3_hasPage 4 = .ok (.iload_n 1, 1) := by decide +kernel
theorem dX3_hasPage_5 : decode cX3_hasPage 5 = .ok (.iushr, 1) := by decide +kernel
theorem dX3_hasPage_6 : decode cX3_hasPage 6 = .ok (.iconst 1, 1) := by decide +kernel
theorem dX3_hasPage_7 : decode cX3_hasPage 7 = .ok (.iand, 1) := by decide +kernel
theorem dX3_hasPage_8 : decode cX3_hasPage 8 = .ok (.iconst 1, 1) := by decide +kernel
theorem dX3_hasPage_9 : decode cX3_hasPage 9 = .ok (.if_icmp .ne 7, 3) := by decide +kernel
theorem dX3_hasPage_12 : decode cX3_hasPage 12 = .ok (.iconst 1, 1) := by decide +kernel
theorem dX3_hasPage_13 : decode cX3_hasPage 13 = .ok (.goto 4, 3) := by decide +kernel
theorem dX3_hasPage_16 : decode cX3_hasPage 16 = .ok (.iconst 0, 1) := by decide +kernel
theorem dX3_hasPage_17 : decode cX3_hasPage 17 = .ok (.ireturn, 1) := by decide +kernel
theorem dX3_takeFrom_0 : decode cX3_takeFrom 0 = .ok (.aload_n 1, 1) := by decide +kernel
theorem dX3_takeFrom_1 : decode cX3_takeFrom 1 = .ok (.getfield 25, 3) := by decide +kernel
theorem dX3_takeFrom_4 : decode cX3_takeFrom 4 = .ok (.iconst 0, 1) := by decide +kernel
theorem dX3_takeFrom_5 : decode cX3_takeFrom 5 = .ok (.aload_n 0, 1) := by decide +kernel
theorem dX3_takeFrom_6 : decode cX3_takeFrom 6 = .ok (.getfield 9, 3) := by decide +kernel
theorem dX3_takeFrom_9 : decode cX3_takeFrom 9 = .ok (.iconst 0, 1) := by decide +kernel
theorem dX3_takeFrom_10 : decode cX3_takeFrom 10 = .ok (.bipush 8, 2) := by decide +kernel
theorem dX3_takeFrom_12 : decode cX3_takeFrom 12 = .ok (.invokestatic 28, 3) := by decide +kernel
theorem dX3_takeFrom_15 : decode cX3_takeFrom 15 = .ok (.aload_n 0, 1) := by decide +kernel
theorem dX3_takeFrom_16 : decode cX3_takeFrom 16 = .ok (.aload_n 1, 1) := by decide +kernel
theorem dX3_takeFrom_17 : decode cX3_takeFrom 17 = .ok (.getfield 34, 3) := by decide +kernel
theorem dX3_takeFrom_20 : decode cX3_takeFrom 20 = .ok (.putfield 37, 3) := by decide +kernel
theorem dX3_takeFrom_23 : decode cX3_takeFrom 23 = .ok (.aload_n 0, 1) := by decide +kernel
theorem dX3_takeFrom_24 : decode cX3_takeFrom 24 = .ok (.aload_n 1, 1) := by decide +kernel
theorem dX3_takeFrom_25 : decode cX3_takeFrom 25 = .ok (.getfield 38, 3) := by decide +kernel
theorem dX3_takeFrom_28 : decode cX3_takeFrom 28 = .ok (.putfield 41, 3) := by decide +kernel
theorem dX3_takeFrom_31 : decode cX3_takeFrom 31 = .ok (.aload_n 0, 1) := by decide +kernel
theorem dX3_takeFrom_32 : decode cX3_takeFrom 32 = .ok (.aload_n 1, 1) := by decide +kernel
theorem dX3_takeFrom_33 : decode cX3_takeFrom 33 = .ok (.getfield 42, 3) := by decide +kernel
theorem dX3_takeFrom_36 : decode cX3_takeFrom 36 = .ok (.putfield 46, 3) := by decide +kernel
theorem dX3_takeFrom_39 : decode cX3_takeFrom 39 = .ok (.aload_n 0, 1) := by decide +kernel
theorem dX3_takeFrom_40 : decode cX3_takeFrom 40 = .ok (.aload_n 1, 1) := by decide +kernel
theorem dX3_takeFrom_41 : decode cX3_takeFrom 41 = .ok (.getfield 47, 3) := by decide +kernel
theorem dX3_takeFrom_44 : decode cX3_takeFrom 44 = .ok (.putfield 50, 3) := by decide +kernel
theorem dX3_takeFrom_47 : decode cX3_takeFrom 47 = .ok (.aload_n 0, 1) := by decide +kernel
theorem dX3_takeFrom_48 : decode cX3_takeFrom 48 = .ok (.aload_n 1, 1) := by decide +kernel
theorem dX3_takeFrom_49 : decode cX3_takeFrom 49 = .ok (.getfield 51, 3) := by decide +kernel
theorem dX3_takeFrom_52 : decode cX3_takeFrom 52 = .ok (.putfield 15, 3) := by decide +kernel
theorem dX3_takeFrom_55 : decode cX3_takeFrom 55 = .ok (.return_, 1) := by decide +kernel
theorem dX3_giveBackTo_0 : decode cX3_giveBackTo 0 = .ok (.aload_n 0, 1) := by decide +kernel
theorem dX3_giveBackTo_1 : decode cX3_giveBackTo 1 = .ok (.getfield 9, 3) := by decide +kernel
theorem dX3_giveBackTo_4 : decode cX3_giveBackTo 4 = .ok (.iconst 0, 1) := by decide +kernel
theorem dX3_giveBackTo_5 : decode cX3_giveBackTo 5 = .ok (.aload_n 1, 1) := by decide +kernel
theorem dX3_giveBackTo_6 : decode cX3_giveBackTo 6 = .ok (.getfield 25, 3) := by decide +kernel
theorem dX3_giveBackTo_9 : decode cX3_giveBackTo 9 = .ok (.iconst 0, 1) := by decide +kernel
theorem dX3_giveBackTo_10 : decode cX3_giveBackTo 10 = .ok (.bipush 8, 2) := by decide +kernel
theorem dX3_giveBackTo_12 : decode cX3_giveBackTo 12 = .ok (.invokestatic 28, 3) := by decide +kernel
theorem dX3_giveBackTo_15 : decode cX3_giveBackTo 15 = .ok (.aload_n 1, 1) := by decide +kernel
theorem dX3_giveBackTo_16 : decode cX3_giveBackTo 16 = .ok (.aload_n 0, 1) := by decide +kernel
theorem dX3_giveBackTo_17 : decode cX3_giveBackTo 17 = .ok (.getfield 37, 3) := by decide +kernel
theorem dX3_giveBackTo_20 : decode cX3_giveBackTo 20 = .ok (.putfield 34, 3) := by decide +kernel
theorem dX3_giveBackTo_23 : decode cX3_giveBackTo 23 = .ok (.aload_n 1, 1) := by decide +kernel
theorem dX3_giveBackTo_24 : decode cX3_giveBackTo 24 = .ok (.aload_n 0, 1) := by decide +kernel
theorem dX3_giveBackTo_25 : decode cX3_giveBackTo 25 = .ok (.getfield 41, 3) := by decide +kernel
theorem dX3_giveBackTo_28 : decode cX3_giveBackTo 28 = .ok (.putfield 38, 3) := by decide +kernel
theorem dX3_giveBackTo_31 : decode cX3_giveBackTo 31 = .ok (.aload_n 1, 1) := by decide +kernel
theorem dX3_giveBackTo_32 : decode cX3_giveBackTo 32 = .ok (.aload_n 0, 1) := by decide +kernel
theorem dX3_giveBackTo_33 : decode cX3_giveBackTo 33 = .ok (.getfield 46, 3) := by decide +kernel
theorem dX3_giveBackTo_36 : decode cX3_giveBackTo 36 = .ok (.putfield 42, 3) := by decide +kernel
theorem dX3_giveBackTo_39 : decode cX3_giveBackTo 39 = .ok (.aload_n 1, 1) := by decide +kernel
theorem dX3_giveBackTo_40 : decode cX3_giveBackTo 40 = .ok (.aload_n 0, 1) := by decide +kernel
theorem dX3_giveBackTo_41 : decode cX3_giveBackTo 41 = .ok (.getfield 50, 3) := by decide +kernel
theorem dX3_giveBackTo_44 : decode cX3_giveBackTo 44 = .ok (.putfield 47, 3) := by decide +kernel
theorem dX3_giveBackTo_47 : decode cX3_giveBackTo 47 = .ok (.aload_n 1, 1) := by decide +kernel
theorem dX3_giveBackTo_48 : decode cX3_giveBackTo 48 = .ok (.iconst 0, 1) := by decide +kernel
theorem dX3_giveBackTo_49 : decode cX3_giveBackTo 49 = .ok (.putfield 51, 3) := by decide +kernel
theorem dX3_giveBackTo_52 : decode cX3_giveBackTo 52 = .ok (.return_, 1) := by decide +kernel
set_option maxRecDepth 20000 in
theorem ggX4_init_X3_init : GoodIn wsX4_init wsX3_init := goodIn_r _ [13, 14, 2, 3, 4, 15, 21, 22, 23, 24, 25, 26, 27] (by decide +kernel) (by decide +kernel)
set_option maxRecDepth 20000 in
theorem gX4_init_X3_init : GoodIn wsX4_init (wsX3_init) := ggX4_init_X3_init
theorem dX4_init_0 : decode cX4_init 0 = .ok (.aload_n 0, 1) := by decide +kernel
theorem dX4_init_1 : decode cX4_init 1 = .ok (.invokespecial 3, 3) := by decide +kernel
theorem dX4_init_4 : decode cX4_init 4 = .ok (.aload_n 0, 1) := by decide +kernel
theorem dX4_init_5 : decode cX4_init 5 = .ok (.sipush 512, 3) := by decide +kernel
theorem dX4_init_8 : decode cX4_init 8 = .ok (.newarray .int, 2) := by decide +kernel
theorem dX4_init_10 : decode cX4_init 10 = .ok (.putfield 9, 3) := by decide +kernel
theorem dX4_init_13 : decode cX4_init 13 = .ok (.aload_n 0, 1) := by decide +kernel
theorem dX4_init_14 : decode cX4_init 14 = .ok (.sipush 4800, 3) := by decide +kernel
theorem dX4_init_17 : decode cX4_init 17 = .ok (.newarray .int, 2) := by decide +kernel
theorem dX4_init_19 : decode cX4_init 19 = .ok (.putfield 15, 3) := by decide +kernel
theorem dX4_init_22 : decode cX4_init 22 = .ok (.aload_n 0, 1) := by decide +kernel
theorem dX4_init_23 : decode cX4_init 23 = .ok (.bipush 40, 2) := by decide +kernel
theorem dX4_init_25 : decode cX4_init 25 = .ok (.anewarray 18, 3) := by decide +kernel
theorem dX4_init_28 : decode cX4_init 28 = .ok (.putfield 20, 3) := by decide +kernel
theorem dX4_init_31 : decode cX4_init 31 = .ok (.iconst 0, 1) := by decide +kernel
theorem dX4_init_32 : decode cX4_init 32 = .ok (.istore_n 1, 1) := by decide +kernel
theorem dX4_init_33 : decode cX4_init 33 = .ok (.iload_n 1, 1) := by decide +kernel
theorem dX4_init_34 : decode cX4_init 34 = .ok (.bipush 40, 2) := by decide +kernel
theorem dX4_init_36 : decode cX4_init 36 = .ok (.if_icmp .ge 22, 3) := by decide +kernel
theorem dX4_init_39 : decode cX4_init 39 = .ok (.aload_n 0, 1) := by decide +kernel
theorem dX4_init_40 : decode cX4_init 40 = .ok (.getfield 20, 3) := by decide +kernel
theorem dX4_init_43 : decode cX4_init 43 = .ok (.iload_n 1, 1) := by decide +kernel
theorem dX4_init_44 : decode cX4_init 44 = .ok (.new 18, 3) := by decide +kernel
theorem dX4_init_47 : decode cX4_init 47 = .ok (.dup, 1) := by decide +kernel
theorem dX4_init_48 : decode cX4_init 48 = .ok (.invokespecial 24, 3) := by decide +kernel
theorem dX4_init_51 : decode cX4_init 51 = .ok (.aastore, 1) := by decide +kernel
theorem dX4_init_52 : decode cX4_init 52 = .ok (.iinc 1 1, 3) := by decide +kernel
theorem dX4_init_55 : decode cX4_init 55 = .ok (.goto (-22), 3) := by decide +kernel
theorem dX4_init_58 : decode cX4_init 58 = .ok (.return_, 1) := by decide +kernel
set_option maxRecDepth 20000 in
theorem ggX4_begin_X4_add : GoodIn wsX4_begin wsX4_add := goodIn_r _ [13, 14, 7, 8, 15, 1, 16, 3, 4, 5, 6, 17, 18, 19, 20, 21, 22, 23, 24, 25, 26, 27, 28, 29, 30, 31, 32, 33, 34, 35, 36, 37, 38, 47, 48, 49, 50, 51, 52, 53, 54, 55, 56, 57, 58, 39, 40, 41, 42, 43, 44, 45, 46] (by decide +kernel) (by decide +kernel)
set_option maxRecDepth 20000 in
theorem gX4_begin_X4_add : GoodIn wsX4_begin (wsV RX4 43 RX4 yX4_add wsX4_add) := goodIn_app (goodIn_of _ (by decide +kernel)) ggX4_begin_X4_add
theorem dX4_begin_0 : decode cX4_begin 0 = .ok (.aload_n 1, 1) := by decide +kernel
theorem dX4_begin_1 : decode cX4_begin 1 = .ok (.getfield 25, 3) := by decide +kernel
theorem dX4_begin_4 : decode cX4_begin 4 = .ok (.iconst 0, 1) := by decide +kernel
theorem dX4_begin_5 : decode cX4_begin 5 = .ok (.aload_n 0, 1) := by decide +kernel
theorem dX4_begin_6 : decode cX4_begin 6 = .ok (.getfield 9, 3) := by decide +kernel
theorem dX4_begin_9 : decode cX4_begin 9 = .ok (.iconst 0, 1) := by decide +kernel
theorem dX4_begin_10 : decode cX4_begin 10 = .ok (.sipush 512, 3) := by decide +kernel
theorem dX4_begin_13 : decode cX4_begin 13 = .ok (.invokestatic 30, 3) := by decide +kernel
theorem dX4_begin_16 : decode cX4_begin 16 = .ok (.aload_n 0, 1) := by decide +kernel
theorem dX4_begin_17 : decode cX4_begin 17 = .ok (.iconst 0, 1) := by decide +kernel
theorem dX4_begin_18 : decode cX4_begin 18 = .ok (.putfield 36, 3) := by decide +kernel
theorem dX4_begin_21 : decode cX4_begin 21 = .ok (.aload_n 0, 1) := by decide +kernel
theorem dX4_begin_22 : decode cX4_begin 22 = .ok (.iconst 0, 1) := by decide +kernel
theorem dX4_begin_23 : decode cX4_begin 23 = .ok (.putfield 40, 3) := by decide +kernel
theorem dX4_begin_26 : decode cX4_begin 26 = .ok (.aload_n 0, 1) := by decide +kernel
theorem dX4_begin_27 : decode cX4_begin 27 = .ok (.aload_n 1, 1) := by decide +kernel
theorem dX4_begin_28 : decode cX4_begin 28 = .ok (.invokevirtual 43, 3) := by decide +kernel
theorem dX4_begin_31 : decode cX4_begin 31 = .ok (.return_, 1) := by decide +kernel
set_option maxRecDepth 20000 in
theorem ggX4_hasRoomFor_J6_bitCount_0f7a4 : GoodIn wsX4_hasRoomFor wsJ6_bitCount_0f7a4 := goodIn_r _ [6, 7, 8, 9] (by decide +kernel) (by decide +kernel)
set_option maxRecDepth 20000 in
theorem gX4_hasRoomFor_J6_bitCount_0f7a4 : GoodIn wsX4_hasRoomFor (va_wsS RX4 47 yJ6_bitCount_0f7a4 wsJ6_bitCount_0f7a4) := goodIn_app (goodIn_of _ (by decide +kernel)) ggX4_hasRoomFor_J6_bitCount_0f7a4
theorem dX4_hasRoomFor_0 : decode cX4_hasRoomFor 0 = .ok (.aload_n 0, 1) := by decide +kernel
theorem dX4_hasRoomFor_1 : decode cX4_hasRoomFor 1 = .ok (.getfield 36, 3) := by decide +kernel
theorem dX4_hasRoomFor_4 : decode cX4_hasRoomFor 4 = .ok (.bipush 40, 2) := by decide +kernel
theorem dX4_hasRoomFor_6 : decode cX4_hasRoomFor 6 = .ok (.if_icmp .ge 22, 3) := by decide +kernel
theorem dX4_hasRoomFor_9 : decode cX4_hasRoomFor 9 = .ok (.aload_n 0, 1) := by decide +kernel
theorem dX4_hasRoomFor_10 : decode cX4_hasRoomFor 10 = .ok (.getfield 40, 3) := by decide +kernel
theorem dX4_hasRoomFor_13 : decode cX4_hasRoomFor 13 = .ok (.iload_n 1, 1) := by decide +kernel
theorem dX4_hasRoomFor_14 : decode cX4_hasRoomFor 14 = .ok (.invokestatic 47, 3) := by decide +kernel
theorem dX4_hasRoomFor_17 : decode cX4_hasRoomFor 17 = .ok (.iadd, 1) := by decide +kernel
theorem dX4_hasRoomFor_18 : decode cX4_hasRoomFor 18 = .ok (.sipush 300, 3) := by decide +kernel
theorem dX4_hasRoomFor_21 : decode cX4_hasRoomFor 21 = .ok (.if_icmp .gt 7, 3) := by decide +kernel
theorem dX4_hasRoomFor_24 : decode cX4_hasRoomFor 24 = .ok (.iconst 1, 1) := by decide +kernel
theorem dX4_hasRoomFor_25 : decode cX4_hasRoomFor 25 = .ok (.goto 4, 3) := by decide +kernel
theorem dX4_hasRoomFor_28 : decode cX4_hasRoomFor 28 = .ok (.iconst 0, 1) := by decide +kernel
theorem dX4_hasRoomFor_29 : decode cX4_hasRoomFor 29 = .ok (.ireturn, 1) := by decide +kernel
set_option maxRecDepth 20000 in
theorem ggX4_add_X3_takeFrom : GoodIn wsX4_add wsX3_takeFrom := goodIn_r _ [15, 16, 17, 18, 8, 9, 10, 19, 20, 21, 22, 23, 24, 25, 26, 27, 28, 45, 46, 47, 48, 49, 50, 51, 52, 38, 39, 40, 41, 42, 43, 44] (by decide +kernel) (by decide +kernel)
set_option maxRecDepth 20000 in
theorem gX4_add_X3_takeFrom : GoodIn wsX4_add (wsV RX4 53 RX3 yX3_takeFrom wsX3_takeFrom) := goodIn_app (goodIn_of _ (by decide +kernel)) ggX4_add_X3_takeFrom
set_option maxRecDepth 20000 in
theorem ggX4_add_X3_hasPage : GoodIn wsX4_add wsX3_hasPage := goodIn_r _ [32, 28, 38, 39, 40, 41, 42, 43, 44] (by decide +kernel) (by decide +kernel)
set_option maxRecDepth 20000 in
theorem gX4_add_X3_hasPage : GoodIn wsX4_add (wsV RX4 59 RX3 yX3_hasPage wsX3_hasPage) := goodIn_app (goodIn_of _ (by decide +kernel)) ggX4_add_X3_hasPage
theorem dX4_add_0 : decode cX4_add 0 = .ok (.aload_n 0, 1) := by decide +kernel
theorem dX4_add_1 : decode cX4_add 1 = .ok (.getfield 20, 3) := by decide +kernel
theorem dX4_add_4 : decode cX4_add 4 = .ok (.aload_n 0, 1) := by decide +kernel
theorem dX4_add_5 : decode cX4_add 5 = .ok (.getfield 36, 3) := by decide +kernel
theorem dX4_add_8 : decode cX4_add 8 = .ok (.aaload, 1) := by decide +kernel
theorem dX4_add_9 : decode cX4_add 9 = .ok (.astore_n 2, 1) := by decide +kernel
theorem dX4_add_10 : decode cX4_add 10 = .ok (.aload_n 2, 1) := by decide +kernel
theorem dX4_add_11 : decode cX4_add 11 = .ok (.aload_n 1, 1) := by decide +kernel
theorem dX4_add_12 : decode cX4_add 12 = .ok (.invokevirtual 53, 3) := by decide +kernel
theorem dX4_add_15 : decode cX4_add 15 = .ok (.aload_n 2, 1) := by decide +kernel
theorem dX4_add_16 : decode cX4_add 16 = .ok (.aload_n 0, 1) := by decide +kernel
theorem dX4_add_17 : decode cX4_add 17 = .ok (.getfield 40, 3) := by decide +kernel
theorem dX4_add_20 : decode cX4_add 20 = .ok (.putfield 56, 3) := by decide +kernel
theorem dX4_add_23 : decode cX4_add 23 = .ok (.iconst 0, 1) := by decide +kernel
theorem dX4_add_24 : decode cX4_add 24 = .ok (.istore_n 3, 1) := by decide +kernel
theorem dX4_add_25 : decode cX4_add 25 = .ok (.iload_n 3, 1) := by decide +kernel
theorem dX4_add_26 : decode cX4_add 26 = .ok (.bipush 32, 2) := by decide +kernel
theorem dX4_add_28 : decode cX4_add 28 = .ok (.if_icmp .ge 51, 3) := by decide +kernel
theorem dX4_add_31 : decode cX4_add 31 = .ok (.aload_n 2, 1) := by decide +kernel
theorem dX4_add_32 : decode cX4_add 32 = .ok (.iload_n 3, 1) := by decide +kernel
theorem dX4_add_33 : decode cX4_add 33 = .ok (.invokevirtual 59, 3) := by decide +kernel
theorem dX4_add_36 : decode cX4_add 36 = .ok (.ifCond .eq 37, 3) := by decide +kernel
theorem dX4_add_39 : decode cX4_add 39 = .ok (.aload_n 1, 1) := by decide +kernel
theorem dX4_add_40 : decode cX4_add 40 = .ok (.getfield 25, 3) := by decide +kernel
theorem dX4_add_43 : decode cX4_add 43 = .ok (.iload_n 3, 1) := by decide +kernel
theorem dX4_add_44 : decode cX4_add 44 = .ok (.bipush 16, 2) := by decide +kernel
theorem dX4_add_46 : decode cX4_add 46 = .ok (.imul, 1) := by decide +kernel
theorem dX4_add_47 : decode cX4_add 47 = .ok (.aload_n 0, 1) := by decide +kernel
theorem dX4_add_48 : decode cX4_add 48 = .ok (.getfield 15, 3) := by decide +kernel
theorem dX4_add_51 : decode cX4_add 51 = .ok (.aload_n 0, 1) := by decide +kernel
theorem dX4_add_52 : decode cX4_add 52 = .ok (.getfield 40, 3) := by decide +kernel
theorem dX4_add_55 : decode cX4_add 55 = .ok (.bipush 16, 2) := by decide +kernel
theorem dX4_add_57 : decode cX4_add 57 = .ok (.imul, 1) := by decide +kernel
theorem dX4_add_58 : decode cX4_add 58 = .ok (.bipush 16, 2) := by decide +kernel
theorem dX4_add_60 : decode cX4_add 60 = .ok (.invokestatic 30, 3) := by decide +kernel
theorem dX4_add_63 : decode cX4_add 63 = .ok (.aload_n 0, 1) := by decide +kernel
theorem dX4_add_64 : decode cX4_add 64 = .ok (.dup, 1) := by decide +kernel
theorem dX4_add_65 : decode cX4_add 65 = .ok (.getfield 40, 3) := by decide +kernel
theorem dX4_add_68 : decode cX4_add 68 = .ok (.iconst 1, 1) := by decide +kernel
theorem dX4_add_69 : decode cX4_add 69 = .ok (.iadd, 1) := by decide +kernel
theorem dX4_add_70 : decode cX4_add 70 = .ok (.putfield 40, 3) := by decide +kernel
theorem dX4_add_73 : decode cX4_add 73 = .ok (.iinc 3 1, 3) := by decide +kernel
theorem dX4_add_76 : decode cX4_add 76 = .ok (.goto (-51), 3) := by decide +kernel
theorem dX4_add_79 : decode cX4_add 79 = .ok (.aload_n 0, 1) := by decide +kernel
theorem dX4_add_80 : decode cX4_add 80 = .ok (.dup, 1) := by decide +kernel
theorem dX4_add_81 : decode cX4_add 81 = .ok (.getfield 36, 3) := by decide +kernel
theorem dX4_add_84 : decode cX4_add 84 = .ok (.iconst 1, 1) := by decide +kernel
theorem dX4_add_85 : decode cX4_add 85 = .ok (.iadd, 1) := by decide +kernel
theorem dX4_add_86 : decode cX4_add 86 = .ok (.putfield 36, 3) := by decide +kernel
theorem dX4_add_89 : decode cX4_add 89 = .ok (.return_, 1) := by decide +kernel
set_option maxRecDepth 20000 in
theorem ggX4_keepFirst_X3_pageCount : GoodIn wsX4_keepFirst wsX3_pageCount := goodIn_r _ [9, 10, 11, 12, 13, 14, 15, 16, 17, 23, 24, 25, 26, 27, 28, 29] (by decide +kernel) (by decide +kernel)
set_option maxRecDepth 20000 in
theorem gX4_keepFirst_X3_pageCount : GoodIn wsX4_keepFirst (wsV RX4 63 RX3 yX3_pageCount wsX3_pageCount) := goodIn_app (goodIn_of _ (by decide +kernel)) ggX4_keepFirst_X3_pageCount
theorem dX4_keepFirst_0 : decode cX4_keepFirst 0 = .ok (.aload_n 0, 1) := by decide +kernel
theorem dX4_keepFirst_1 : decode cX4_keepFirst 1 = .ok (.getfield 20, 3) := by decide +kernel
theorem dX4_keepFirst_4 : decode cX4_keepFirst 4 = .ok (.iload_n 1, 1) := by decide +kernel
theorem dX4_keepFirst_5 : decode cX4_keepFirst 5 = .ok (.iconst 1, 1) := by decide +kernel
theorem dX4_keepFirst_6 : decode cX4_keepFirst 6 = .ok (.isub, 1) := by decide +kernel
theorem dX4_keepFirst_7 : decode cX4_keepFirst 7 = .ok (.aaload, 1) := by decide +kernel
theorem dX4_keepFirst_8 : decode cX4_keepFirst 8 = .ok (.astore_n 2, 1) := by decide +kernel
theorem dX4_keepFirst_9 : decode cX4_keepFirst 9 = .ok (.aload_n 0, 1) := by decide +kernel
theorem dX4_keepFirst_10 : decode cX4_keepFirst 10 = .ok (.iload_n 1, 1) := by decide +kernel
theorem dX4_keepFirst_11 : decode cX4_keepFirst 11 = .ok (.putfield 36, 3) := by decide +kernel
theorem dX4_keepFirst_14 : decode cX4_keepFirst 14 = .ok (.aload_n 0, 1) := by decide +kernel
theorem dX4_keepFirst_15 : decode cX4_keepFirst 15 = .ok (.aload_n 2, 1) := by decide +kernel
theorem dX4_keepFirst_16 : decode cX4_keepFirst 16 = .ok (.getfield 56, 3) := by decide +kernel
theorem dX4_keepFirst_19 : decode cX4_keepFirst 19 = .ok (.aload_n 2, 1) := by decide +kernel
theorem dX4_keepFirst_20 : decode cX4_keepFirst 20 = .ok (.invokevirtual 63, 3) := by decide +kernel
theorem dX4_keepFirst_23 : decode cX4_keepFirst 23 = .ok (.iadd, 1) := by decide +kernel
theorem dX4_keepFirst_24 : decode cX4_keepFirst 24 = .ok (.putfield 40, 3) := by decide +kernel
theorem dX4_keepFirst_27 : decode cX4_keepFirst 27 = .ok (.return_, 1) := by decide +kernel
set_option maxRecDepth 20000 in
theorem ggX4_restore_X4_layPages : GoodIn wsX4_restore wsX4_layPages := goodIn_r _ [12, 13, 14, 3, 4, 5, 6, 15, 16, 17, 18, 19, 20, 50, 51, 52, 53, 54, 55, 56, 37, 38, 39, 40, 41] (by decide +kernel) (by decide +kernel)
set_option maxRecDepth 20000 in
theorem gX4_restore_X4_layPages : GoodIn wsX4_restore (wsV RX4 67 RX4 yX4_layPages wsX4_layPages) := goodIn_app (goodIn_of _ (by decide +kernel)) ggX4_restore_X4_layPages
set_option maxRecDepth 20000 in
theorem ggX4_restore_X3_giveBackTo : GoodIn wsX4_restore wsX3_giveBackTo := goodIn_r _ [24, 25, 26, 27, 4, 5, 6, 28, 29, 30, 31, 32, 33, 34, 35, 36, 50, 51, 52, 53, 54, 55, 56, 42, 43, 44, 45, 46, 47, 48, 49] (by decide +kernel) (by decide +kernel)
set_option maxRecDepth 20000 in
theorem gX4_restore_X3_giveBackTo : GoodIn wsX4_restore (wsV RX4 71 RX3 yX3_giveBackTo wsX3_giveBackTo) := goodIn_app (goodIn_of _ (by decide +kernel)) ggX4_restore_X3_giveBackTo
theorem dX4_restore_0 : decode cX4_restore 0 = .ok (.aload_n 0, 1) := by decide +kernel
theorem dX4_restore_1 : decode cX4_restore 1 = .ok (.getfield 9, 3) := by decide +kernel
theorem dX4_restore_4 : decode cX4_restore 4 = .ok (.iconst 0, 1) := by decide +kernel
theorem dX4_restore_5 : decode cX4_restore 5 = .ok (.aload_n 2, 1) := by decide +kernel
theorem dX4_restore_6 : decode cX4_restore 6 = .ok (.getfield 25, 3) := by decide +kernel
theorem dX4_restore_9 : decode cX4_restore 9 = .ok (.iconst 0, 1) := by decide +kernel
theorem dX4_restore_10 : decode cX4_restore 10 = .ok (.sipush 512, 3) := by decide +kernel
theorem dX4_restore_13 : decode cX4_restore 13 = .ok (.invokestatic 30, 3) := by decide +kernel
theorem dX4_restore_16 : decode cX4_restore 16 = .ok (.iconst 1, 1) := by decide +kernel
theorem dX4_restore_17 : decode cX4_restore 17 = .ok (.istore_n 3, 1) := by decide +kernel
theorem dX4_restore_18 : decode cX4_restore 18 = .ok (.iload_n 3, 1) := by decide +kernel
theorem dX4_restore_19 : decode cX4_restore 19 = .ok (.iload_n 1, 1) := by decide +kernel
theorem dX4_restore_20 : decode cX4_restore 20 = .ok (.if_icmp .gt 23, 3) := by decide +kernel
theorem dX4_restore_23 : decode cX4_restore 23 = .ok (.aload_n 0, 1) := by decide +kernel
theorem dX4_restore_24 : decode cX4_restore 24 = .ok (.aload_n 0, 1) := by decide +kernel
theorem dX4_restore_25 : decode cX4_restore 25 = .ok (.getfield 20, 3) := by decide +kernel
theorem dX4_restore_28 : decode cX4_restore 28 = .ok (.iload_n 3, 1) := by decide +kernel
theorem dX4_restore_29 : decode cX4_restore 29 = .ok (.aaload, 1) := by decide +kernel
theorem dX4_restore_30 : decode cX4_restore 30 = .ok (.aload_n 2, 1) := by decide +kernel
theorem dX4_restore_31 : decode cX4_restore 31 = .ok (.getfield 25, 3) := by decide +kernel
theorem dX4_restore_34 : decode cX4_restore 34 = .ok (.invokevirtual 67, 3) := by decide +kernel
theorem dX4_restore_37 : decode cX4_restore 37 = .ok (.iinc 3 1, 3) := by decide +kernel
theorem dX4_restore_40 : decode cX4_restore 40 = .ok (.goto (-22), 3) := by decide +kernel
theorem dX4_restore_43 : decode cX4_restore 43 = .ok (.aload_n 0, 1) := by decide +kernel
theorem dX4_restore_44 : decode cX4_restore 44 = .ok (.getfield 20, 3) := by decide +kernel
theorem dX4_restore_47 : decode cX4_restore 47 = .ok (.iload_n 1, 1) := by decide +kernel
theorem dX4_restore_48 : decode cX4_restore 48 = .ok (.aaload, 1) := by decide +kernel
theorem dX4_restore_49 : decode cX4_restore 49 = .ok (.aload_n 2, 1) := by decide +kernel
theorem dX4_restore_50 : decode cX4_restore 50 = .ok (.invokevirtual 71, 3) := by decide +kernel
theorem dX4_restore_53 : decode cX4_restore 53 = .ok (.return_, 1) := by decide +kernel
set_option maxRecDepth 20000 in
theorem ggX4_layPages_X3_hasPage : GoodIn wsX4_layPages wsX3_hasPage := goodIn_r _ [11, 12, 13, 14, 15, 16, 17, 18, 19] (by decide +kernel) (by decide +kernel)
set_option maxRecDepth 20000 in
theorem gX4_layPages_X3_hasPage : GoodIn wsX4_layPages (wsV RX4 59 RX3 yX3_hasPage wsX3_hasPage) := goodIn_app (goodIn_of _ (by decide +kernel)) ggX4_layPages_X3_hasPage
theorem dX4_layPages_0 : decode cX4_layPages 0 = .ok (.aload_n 1, 1) := by decide +kernel
theorem dX4_layPages_1 : decode cX4_layPages 1 = .ok (.getfield 56, 3) := by decide +kernel
theorem dX4_layPages_4 : decode cX4_layPages 4 = .ok (.istore_n 3, 1) := by decide +kernel
theorem dX4_layPages_5 : decode cX4_layPages 5 = .ok (.iconst 0, 1) := by decide +kernel
theorem dX4_layPages_6 : decode cX4_layPages 6 = .ok (.istore 4, 2) := by decide +kernel
theorem dX4_layPages_8 : decode cX4_layPages 8 = .ok (.iload 4, 2) := by decide +kernel
theorem dX4_layPages_10 : decode cX4_layPages 10 = .ok (.bipush 32, 2) := by decide +kernel
theorem dX4_layPages_12 : decode cX4_layPages 12 = .ok (.if_icmp .ge 40, 3) := by decide +kernel
theorem dX4_layPages_15 : decode cX4_layPages 15 = .ok (.aload_n 1, 1) := by decide +kernel
theorem dX4_layPages_16 : decode cX4_layPages 16 = .ok (.iload 4, 2) := by decide +kernel
theorem dX4_layPages_18 : decode cX4_layPages 18 = .ok (.invokevirtual 59, 3) := by decide +kernel
theorem dX4_layPages_21 : decode cX4_layPages 21 = .ok (.ifCond .eq 25, 3) := by decide +kernel
theorem dX4_layPages_24 : decode cX4_layPages 24 = .ok (.aload_n 0, 1) := by decide +kernel
theorem dX4_layPages_25 : decode cX4_layPages 25 = .ok (.getfield 15, 3) := by decide +kernel
theorem dX4_layPages_28 : decode cX4_layPages 28 = .ok (.iload_n 3, 1) := by decide +kernel
theorem dX4_layPages_29 : decode cX4_layPages 29 = .ok (.bipush 16, 2) := by decide +kernel
theorem dX4_layPages_31 : decode cX4_layPages 31 = .ok (.imul, 1) := by decide +kernel
theorem dX4_layPages_32 : decode cX4_layPages 32 = .ok (.aload_n 2, 1) := by decide +kernel
theorem dX4_layPages_33 : decode cX4_layPages 33 = .ok (.iload 4, 2) := by decide +kernel
theorem dX4_layPages_35 : decode cX4_layPages 35 = .ok (.bipush 16, 2) := by decide +kernel
theorem dX4_layPages_37 : decode cX4_layPages 37 = .ok (.imul, 1) := by decide +kernel
theorem dX4_layPages_38 : decode cX4_layPages 38 = .ok (.bipush 16, 2) := by decide +kernel
theorem dX4_layPages_40 : decode cX4_layPages 40 = .ok (.invokestatic 30, 3) := by decide +kernel
theorem dX4_layPages_43 : decode cX4_layPages 43 = .ok (.iinc 3 1, 3) := by decide +kernel
theorem dX4_layPages_46 : decode cX4_layPages 46 = .ok (.iinc 4 1, 3) := by decide +kernel
theorem dX4_layPages_49 : decode cX4_layPages 49 = .ok (.goto (-41), 3) := by decide +kernel
theorem dX4_layPages_52 : decode cX4_layPages 52 = .ok (.return_, 1) := by decide +kernel
set_option maxRecDepth 20000 in
theorem ggX5_init_X2_init : GoodIn wsX5_init wsX2_init := goodIn_r _ [30, 31, 2, 3, 32, 33, 34, 35, 72, 73, 74, 75, 76, 77, 78, 79] (by decide +kernel) (by decide +kernel)
set_option maxRecDepth 20000 in
theorem gX5_init_X2_init : GoodIn wsX5_init (wsX2_init) := ggX5_init_X2_init
set_option maxRecDepth 20000 in
theorem ggX5_init_X0_init : GoodIn wsX5_init wsX0_init := goodIn_r _ [38, 39, 2, 3, 32, 40, 80, 81, 82] (by decide +kernel) (by decide +kernel)
set_option maxRecDepth 20000 in
theorem gX5_init_X0_init : GoodIn wsX5_init (wsX0_init) := ggX5_init_X0_init
set_option maxRecDepth 20000 in
theorem ggX5_init_X1_init : GoodIn wsX5_init wsX1_init := goodIn_r _ [43, 44, 2, 3, 32, 45, 46, 47, 83, 84, 85, 86] (by decide +kernel) (by decide +kernel)
set_option maxRecDepth 20000 in
theorem gX5_init_X1_init : GoodIn wsX5_init (wsX1_init) := ggX5_init_X1_init
set_option maxRecDepth 20000 in
theorem ggX5_init_X4_init : GoodIn wsX5_init wsX4_init := goodIn_r _ [50, 51, 2, 3, 32, 52, 53, 54, 55, 56, 57, 58, 59, 60, 61, 62, 87, 88, 89, 90, 91, 92, 93, 94, 95, 96, 97, 98] (by decide +kernel) (by decide +kernel)
set_option maxRecDepth 20000 in
theorem gX5_init_X4_init : GoodIn wsX5_init (wsX4_init) := ggX5_init_X4_init
end
section
theorem dX5_init_0 : decode cX5_init 0 = .ok (.aload_n 0, 1) := by decide +kernel
theorem dX5_init_1 : decode cX5_init 1 = .ok (.invokespecial 3, 3) := by decide +kernel
theorem dX5_init_4 : decode cX5_init 4 = .ok (.aload_n 0, 1) := by decide +kernel
theorem dX5_init_5 : decode cX5_init 5 = .ok (.iconst 2, 1) := by decide +kernel
theorem dX5_init_6 : decode cX5_init 6 = .ok (.iload_n 1, 1) := by decide +kernel
theorem dX5_init_7 : decode cX5_init 7 = .ok (.bipush 64, 2) := by decide +kernel
theorem dX5_init_9 : decode cX5_init 9 = .ok (.invokestatic 9, 3) := by decide +kernel
theorem dX5_init_12 : decode cX5_init 12 = .ok (.invokestatic 15, 3) := by decide +kernel
theorem dX5_init_15 : decode cX5_init 15 = .ok (.putfield 18, 3) := by decide +kernel
theorem dX5_init_18 : decode cX5_init 18 = .ok (.aload_n 0, 1) := by decide +kernel
theorem dX5_init_19 : decode cX5_init 19 = .ok (.new 22, 3) := by decide +kernel
theorem dX5_init_22 : decode cX5_init 22 = .ok (.dup, 1) := by decide +kernel
theorem dX5_init_23 : decode cX5_init 23 = .ok (.invokespecial 24, 3) := by decide +kernel
theorem dX5_init_26 : decode cX5_init 26 = .ok (.putfield 25, 3) := by decide +kernel
theorem dX5_init_29 : decode cX5_init 29 = .ok (.aload_n 0, 1) := by decide +kernel
theorem dX5_init_30 : decode cX5_init 30 = .ok (.new 29, 3) := by decide +kernel
theorem dX5_init_33 : decode cX5_init 33 = .ok (.dup, 1) := by decide +kernel
theorem dX5_init_34 : decode cX5_init 34 = .ok (.invokespecial 31, 3) := by decide +kernel
theorem dX5_init_37 : decode cX5_init 37 = .ok (.putfield 32, 3) := by decide +kernel
theorem dX5_init_40 : decode cX5_init 40 = .ok (.aload_n 0, 1) := by decide +kernel
theorem dX5_init_41 : decode cX5_init 41 = .ok (.new 36, 3) := by decide +kernel
theorem dX5_init_44 : decode cX5_init 44 = .ok (.dup, 1) := by decide +kernel
theorem dX5_init_45 : decode cX5_init 45 = .ok (.invokespecial 38, 3) := by decide +kernel
theorem dX5_init_48 : decode cX5_init 48 = .ok (.putfield 39, 3) := by decide +kernel
theorem dX5_init_51 : decode cX5_init 51 = .ok (.aload_n 0, 1) := by decide +kernel
theorem dX5_init_52 : decode cX5_init 52 = .ok (.new 43, 3) := by decide +kernel
theorem dX5_init_55 : decode cX5_init 55 = .ok (.dup, 1) := by decide +kernel
theorem dX5_init_56 : decode cX5_init 56 = .ok (.invokespecial 45, 3) := by decide +kernel
theorem dX5_init_59 : decode cX5_init 59 = .ok (.putfield 46, 3) := by decide +kernel
theorem dX5_init_62 : decode cX5_init 62 = .ok (.return_, 1) := by decide +kernel
set_option maxRecDepth 20000 in
theorem ggX5_poke_X5_isPlace : GoodIn wsX5_poke wsX5_isPlace := goodIn_r _ [7] (by decide +kernel) (by decide +kernel)
set_option maxRecDepth 20000 in
theorem gX5_poke_X5_isPlace : GoodIn wsX5_poke (va_wsS RX5 54 yX5_isPlace wsX5_isPlace) := goodIn_app (goodIn_of _ (by decide +kernel)) ggX5_poke_X5_isPlace
theorem dX5_poke_0 : decode cX5_poke 0 = .ok (.aload_n 0, 1) := by decide +kernel
theorem dX5_poke_1 : decode cX5_poke 1 = .ok (.getfield 50, 3) := by decide +kernel
theorem dX5_poke_4 : decode cX5_poke 4 = .ok (.ifCond .ne 10, 3) := by decide +kernel
theorem dX5_poke_7 : decode cX5_poke 7 = .ok (.iload_n 1, 1) := by decide +kernel
theorem dX5_poke_8 : decode cX5_poke 8 = .ok (.invokestatic 54, 3) := by decide +kernel
theorem dX5_poke_11 : decode cX5_poke 11 = .ok (.ifCond .ne 5, 3) := by decide +kernel
theorem dX5_poke_14 : decode cX5_poke 14 = .ok (.iconst 0, 1) := by decide +kernel
theorem dX5_poke_15 : decode cX5_poke 15 = .ok (.ireturn, 1) := by decide +kernel
theorem dX5_poke_16 : decode cX5_poke 16 = .ok (.aload_n 0, 1) := by decide +kernel
theorem dX5_poke_17 : decode cX5_poke 17 = .ok (.getfield 25, 3) := by decide +kernel
theorem dX5_poke_20 : decode cX5_poke 20 = .ok (.getfield 58, 3) := by decide +kernel
theorem dX5_poke_23 : decode cX5_poke 23 = .ok (.iload_n 1, 1) := by decide +kernel
theorem dX5_poke_24 : decode cX5_poke 24 = .ok (.iload_n 2, 1) := by decide +kernel
theorem dX5_poke_25 : decode cX5_poke 25 = .ok (.iastore, 1) := by decide +kernel
theorem dX5_poke_26 : decode cX5_poke 26 = .ok (.iconst 1, 1) := by decide +kernel
theorem dX5_poke_27 : decode cX5_poke 27 = .ok (.ireturn, 1) := by decide +kernel
set_option maxRecDepth 20000 in
theorem ggX5_start_X2_reset : GoodIn wsX5_start wsX2_reset := goodIn_r _ [14, 15, 16, 17, 18, 19, 20, 21, 22, 23, 24, 87, 88, 89, 90, 91, 92, 93, 94] (by decide +kernel) (by decide +kernel)
set_option maxRecDepth 20000 in
theorem gX5_start_X2_reset : GoodIn wsX5_start (wsV RX5 62 RX2 yX2_reset wsX2_reset) := goodIn_app (goodIn_of _ (by decide +kernel)) ggX5_start_X2_reset
set_option maxRecDepth 20000 in
theorem ggX5_start_X0_clear : GoodIn wsX5_start wsX0_clear := goodIn_r _ [29, 30, 31, 95, 96, 97] (by decide +kernel) (by decide +kernel)
set_option maxRecDepth 20000 in
theorem gX5_start_X0_clear : GoodIn wsX5_start (wsV RX5 65 RX0 yX0_clear wsX0_clear) := goodIn_app (goodIn_of _ (by decide +kernel)) ggX5_start_X0_clear
set_option maxRecDepth 20000 in
theorem ggX5_start_X4_begin : GoodIn wsX5_start wsX4_begin := goodIn_r _ [36, 37, 38, 39, 40, 41, 42, 43, 44, 45, 46, 47, 35, 48, 49, 50, 51, 52, 53, 54, 55, 56, 57, 58, 59, 60, 61, 62, 63, 64, 65, 66, 67, 68, 69, 70, 71, 72, 73, 87, 88, 89, 90, 91, 92, 93, 94, 98, 99, 100, 101, 102, 103, 104, 105, 106, 107, 108, 109] (by decide +kernel) (by decide +kernel)
set_option maxRecDepth 20000 in
theorem gX5_start_X4_begin : GoodIn wsX5_start (wsV RX5 71 RX4 yX4_begin wsX4_begin) := goodIn_app (goodIn_of _ (by decide +kernel)) ggX5_start_X4_begin
theorem dX5_start_0 : decode cX5_start 0 = .ok (.aload_n 0, 1) := by decide +kernel
theorem dX5_start_1 : decode cX5_start 1 = .ok (.getfield 25, 3) := by decide +kernel
theorem dX5_start_4 : decode cX5_start 4 = .ok (.invokevirtual 62, 3) := by decide +kernel
theorem dX5_start_7 : decode cX5_start 7 = .ok (.aload_n 0, 1) := by decide +kernel
theorem dX5_start_8 : decode cX5_start 8 = .ok (.getfield 32, 3) := by decide +kernel
theorem dX5_start_11 : decode cX5_start 11 = .ok (.invokevirtual 65, 3) := by decide +kernel
theorem dX5_start_14 : decode cX5_start 14 = .ok (.aload_n 0, 1) := by decide +kernel
theorem dX5_start_15 : decode cX5_start 15 = .ok (.getfield 39, 3) := by decide +kernel
theorem dX5_start_18 : decode cX5_start 18 = .ok (.iconst 0, 1) := by decide +kernel
theorem dX5_start_19 : decode cX5_start 19 = .ok (.putfield 68, 3) := by decide +kernel
theorem dX5_start_22 : decode cX5_start 22 = .ok (.aload_n 0, 1) := by decide +kernel
theorem dX5_start_23 : decode cX5_start 23 = .ok (.getfield 46, 3) := by decide +kernel
theorem dX5_start_26 : decode cX5_start 26 = .ok (.aload_n 0, 1) := by decide +kernel
theorem dX5_start_27 : decode cX5_start 27 = .ok (.getfield 25, 3) := by decide +kernel
theorem dX5_start_30 : decode cX5_start 30 = .ok (.invokevirtual 71, 3) := by decide +kernel
theorem dX5_start_33 : decode cX5_start 33 = .ok (.aload_n 0, 1) := by decide +kernel
theorem dX5_start_34 : decode cX5_start 34 = .ok (.iconst 1, 1) := by decide +kernel
theorem dX5_start_35 : decode cX5_start 35 = .ok (.putfield 50, 3) := by decide +kernel
theorem dX5_start_38 : decode cX5_start 38 = .ok (.aload_n 0, 1) := by decide +kernel
theorem dX5_start_39 : decode cX5_start 39 = .ok (.iconst 0, 1) := by decide +kernel
theorem dX5_start_40 : decode cX5_start 40 = .ok (.putfield 75, 3) := by decide +kernel
theorem dX5_start_43 : decode cX5_start 43 = .ok (.aload_n 0, 1) := by decide +kernel
theorem dX5_start_44 : decode cX5_start 44 = .ok (.iconst 0, 1) := by decide +kernel
theorem dX5_start_45 : decode cX5_start 45 = .ok (.putfield 78, 3) := by decide +kernel
theorem dX5_start_48 : decode cX5_start 48 = .ok (.aload_n 0, 1) := by decide +kernel
theorem dX5_start_49 : decode cX5_start 49 = .ok (.iconst 0, 1) := by decide +kernel
theorem dX5_start_50 : decode cX5_start 50 = .ok (.putfield 81, 3) := by decide +kernel
theorem dX5_start_53 : decode cX5_start 53 = .ok (.return_, 1) := by decide +kernel
theorem dX5_stop_0 : decode cX5_stop 0 = .ok (.aload_n 0, 1) := by decide +kernel
theorem dX5_stop_1 : decode cX5_stop 1 = .ok (.iconst 0, 1) := by decide +kernel
theorem dX5_stop_2 : decode cX5_stop 2 = .ok (.putfield 50, 3) := by decide +kernel
theorem dX5_stop_5 : decode cX5_stop 5 = .ok (.return_, 1) := by decide +kernel
set_option maxRecDepth 20000 in
theorem ggX5_give_X0_add : GoodIn wsX5_give wsX0_add := goodIn_r _ [8, 9, 10, 11, 21, 22, 23] (by decide +kernel) (by decide +kernel)
set_option maxRecDepth 20000 in
theorem gX5_give_X0_add : GoodIn wsX5_give (wsV RX5 85 RX0 yX0_add wsX0_add) := goodIn_app (goodIn_of _ (by decide +kernel)) ggX5_give_X0_add
theorem dX5_give_0 : decode cX5_give 0 = .ok (.aload_n 0, 1) := by decide +kernel
theorem dX5_give_1 : decode cX5_give 1 = .ok (.getfield 50, 3) := by decide +kernel
theorem dX5_give_4 : decode cX5_give 4 = .ok (.ifCond .eq 15, 3) := by decide +kernel
theorem dX5_give_7 : decode cX5_give 7 = .ok (.aload_n 0, 1) := by decide +kernel
theorem dX5_give_8 : decode cX5_give 8 = .ok (.getfield 32, 3) := by decide +kernel
theorem dX5_give_11 : decode cX5_give 11 = .ok (.getfield 84, 3) := by decide +kernel
theorem dX5_give_14 : decode cX5_give 14 = .ok (.bipush 100, 2) := by decide +kernel
theorem dX5_give_16 : decode cX5_give 16 = .ok (.if_icmp .lt 5, 3) := by decide +kernel
theorem dX5_give_19 : decode cX5_give 19 = .ok (.iconst (-1), 1) := by decide +kernel
theorem dX5_give_20 : decode cX5_give 20 = .ok (.ireturn, 1) := by decide +kernel
theorem dX5_give_21 : decode cX5_give 21 = .ok (.aload_n 0, 1) := by decide +kernel
theorem dX5_give_22 : decode cX5_give 22 = .ok (.getfield 32, 3) := by decide +kernel
theorem dX5_give_25 : decode cX5_give 25 = .ok (.iload_n 1, 1) := by decide +kernel
theorem dX5_give_26 : decode cX5_give 26 = .ok (.invokevirtual 85, 3) := by decide +kernel
theorem dX5_give_29 : decode cX5_give 29 = .ok (.aload_n 0, 1) := by decide +kernel
theorem dX5_give_30 : decode cX5_give 30 = .ok (.getfield 32, 3) := by decide +kernel
theorem dX5_give_33 : decode cX5_give 33 = .ok (.getfield 84, 3) := by decide +kernel
theorem dX5_give_36 : decode cX5_give 36 = .ok (.ireturn, 1) := by decide +kernel
theorem dX5_ring_0 : decode cX5_ring 0 = .ok (.aload_n 0, 1) := by decide +kernel
theorem dX5_ring_1 : decode cX5_ring 1 = .ok (.getfield 50, 3) := by decide +kernel
theorem dX5_ring_4 : decode cX5_ring 4 = .ok (.ifCond .ne 5, 3) := by decide +kernel
theorem dX5_ring_7 : decode cX5_ring 7 = .ok (.iconst 0, 1) := by decide +kernel
theorem dX5_ring_8 : decode cX5_ring 8 = .ok (.ireturn, 1) := by decide +kernel
theorem dX5_ring_9 : decode cX5_ring 9 = .ok (.aload_n 0, 1) := by decide +kernel
theorem dX5_ring_10 : decode cX5_ring 10 = .ok (.iconst 1, 1) := by decide +kernel
theorem dX5_ring_11 : decode cX5_ring 11 = .ok (.putfield 75, 3) := by decide +kernel
theorem dX5_ring_14 : decode cX5_ring 14 = .ok (.iconst 1, 1) := by decide +kernel
theorem dX5_ring_15 : decode cX5_ring 15 = .ok (.ireturn, 1) := by decide +kernel
set_option maxRecDepth 20000 in
theorem ggX5_step_X5_tryStep : GoodIn wsX5_step wsX5_tryStep := goodIn_r _ [10, 11, 12, 13, 14, 15, 9, 16, 17, 18, 19, 20, 21, 22, 23, 24, 25, 26, 27, 28, 29, 30, 31, 32, 33, 34, 35, 36, 37, 38, 39, 40, 41, 42, 43, 44, 45, 46, 47, 48, 49, 50, 51, 52, 53, 54, 55, 56, 57, 58, 59, 60, 61, 62, 63, 64, 65, 66, 67, 68, 69, 70, 71, 72, 73, 74, 75, 76, 77, 78, 79, 80, 81, 82, 83, 84, 85, 86, 87, 88, 89, 90, 91, 92, 93, 94, 95, 96, 97, 98, 99, 100, 101, 102, 103, 104, 105, 106, 107, 108, 109, 110, 111, 112, 113, 114, 115, 116, 117, 118, 119, 120, 121, 122, 123, 124, 125, 126, 127, 128, 129, 130, 131, 132, 133, 134, 135, 136, 137, 138, 139, 140, 141, 142, 143, 144, 145, 146, 147, 148, 149, 150, 151, 152, 153, 154, 155, 156, 157, 158, 159, 160, 161, 162, 163, 164, 165, 166, 167, 168, 169, 170, 171, 172, 173, 174, 175, 176, 177, 178, 179, 180, 181, 182, 183, 184, 185, 186, 187, 188, 189, 190, 191, 192, 193, 194, 195, 196, 197, 198, 199, 200, 201, 202, 203, 204, 205, 206, 207, 208, 209, 210, 211, 212, 213, 214, 215] (by decide +kernel) (by decide +kernel)
set_option maxRecDepth 20000 in
theorem gX5_step_X5_tryStep : GoodIn wsX5_step (wsV RX5 89 RX5 yX5_tryStep wsX5_tryStep) := goodIn_app (goodIn_of _ (by decide +kernel)) ggX5_step_X5_tryStep
theorem dX5_step_0 : decode cX5_step 0 = .ok (.aload_n 0, 1) := by decide +kernel
theorem dX5_step_1 : decode cX5_step 1 = .ok (.getfield 50, 3) := by decide +kernel
theorem dX5_step_4 : decode cX5_step 4 = .ok (.ifCond .ne 5, 3) := by decide +kernel
theorem dX5_step_7 : decode cX5_step 7 = .ok (.iconst (-1), 1) := by decide +kernel
theorem dX5_step_8 : decode cX5_step 8 = .ok (.ireturn, 1) := by decide +kernel
theorem dX5_step_9 : decode cX5_step 9 = .ok (.iload_n 1, 1) := by decide +kernel
theorem dX5_step_10 : decode cX5_step 10 = .ok (.sipush 10000, 3) := by decide +kernel
theorem dX5_step_13 : decode cX5_step 13 = .ok (.invokestatic 9, 3) := by decide +kernel
theorem dX5_step_16 : decode cX5_step 16 = .ok (.istore_n 2, 1) := by decide +kernel
theorem dX5_step_17 : decode cX5_step 17 = .ok (.iconst 0, 1) := by decide +kernel
theorem dX5_step_18 : decode cX5_step 18 = .ok (.istore_n 3, 1) := by decide +kernel
theorem dX5_step_19 : decode cX5_step 19 = .ok (.iload_n 3, 1) := by decide +kernel
theorem dX5_step_20 : decode cX5_step 20 = .ok (.iload_n 2, 1) := by decide +kernel
theorem dX5_step_21 : decode cX5_step 21 = .ok (.if_icmp .ge 16, 3) := by decide +kernel
theorem dX5_step_24 : decode cX5_step 24 = .ok (.aload_n 0, 1) := by decide +kernel
theorem dX5_step_25 : decode cX5_step 25 = .ok (.invokevirtual 89, 3) := by decide +kernel
theorem dX5_step_28 : decode cX5_step 28 = .ok (.ifCond .eq 9, 3) := by decide +kernel
theorem dX5_step_31 : decode cX5_step 31 = .ok (.iinc 3 1, 3) := by decide +kernel
theorem dX5_step_34 : decode cX5_step 34 = .ok (.goto (-15), 3) := by decide +kernel
theorem dX5_step_37 : decode cX5_step 37 = .ok (.iload_n 3, 1) := by decide +kernel
theorem dX5_step_38 : decode cX5_step 38 = .ok (.ireturn, 1) := by decide +kernel
set_option maxRecDepth 20000 in
theorem ggX5_go_X5_isOnRecord : GoodIn wsX5_go wsX5_isOnRecord := goodIn_r _ [9, 10, 11, 139, 140, 141, 142, 143, 144, 145, 146, 147] (by decide +kernel) (by decide +kernel)
set_option maxRecDepth 20000 in
theorem gX5_go_X5_isOnRecord : GoodIn wsX5_go (wsV RX5 93 RX5 yX5_isOnRecord wsX5_isOnRecord) := goodIn_app (goodIn_of _ (by decide +kernel)) ggX5_go_X5_isOnRecord
set_option maxRecDepth 20000 in
theorem ggX5_go_X4_restore : GoodIn wsX5_go wsX4_restore := goodIn_r _ [16, 17, 18, 19, 20, 21, 22, 23, 24, 25, 26, 15, 27, 28, 29, 30, 31, 32, 33, 34, 35, 36, 37, 38, 39, 40, 41, 42, 43, 44, 45, 46, 47, 48, 49, 50, 51, 148, 149, 150, 151, 152, 153, 154, 155, 156, 157, 158, 159, 160, 161, 162, 163, 164, 165, 166, 167] (by decide +kernel) (by decide +kernel)
set_option maxRecDepth 20000 in
theorem gX5_go_X4_restore : GoodIn wsX5_go (wsV RX5 96 RX4 yX4_restore wsX4_restore) := goodIn_app (goodIn_of _ (by decide +kernel)) ggX5_go_X4_restore
set_option maxRecDepth 20000 in
theorem ggX5_go_X5_stepByLog : GoodIn wsX5_go wsX5_stepByLog := goodIn_r _ [55, 56, 4, 57, 58, 59, 60, 61, 62, 63, 64, 65, 66, 67, 68, 69, 70, 8, 71, 3, 11, 1, 2, 72, 73, 74, 75, 76, 77, 78, 79, 80, 81, 82, 83, 84, 85, 86, 87, 88, 89, 90, 91, 92, 93, 94, 95, 96, 97, 98, 99, 100, 101, 102, 103, 104, 105, 106, 107, 108, 109, 110, 111, 112, 113, 114, 115, 116, 117, 118, 119, 120, 121, 122, 123, 124, 125, 126, 127, 128, 129, 130, 131, 15, 132, 23, 133, 134, 28, 18, 29, 19, 20, 21, 22, 135, 136, 137, 33, 138, 41, 40, 42, 44, 43, 46, 45, 48, 47, 50, 49, 51, 35, 30, 31, 32, 34, 139, 140, 141, 142, 143, 144, 145, 146, 147, 168, 169, 170, 171, 153, 154, 155, 156, 157, 158, 159, 160, 148, 149, 150, 151, 152, 161, 162, 163, 164, 165, 166, 167] (by decide +kernel) (by decide +kernel)
set_option maxRecDepth 20000 in
theorem gX5_go_X5_stepByLog : GoodIn wsX5_go (wsV RX5 100 RX5 yX5_stepByLog wsX5_stepByLog) := goodIn_app (goodIn_of _ (by decide +kernel)) ggX5_go_X5_stepByLog
theorem dX5_go_0 : decode cX5_go 0 = .ok (.aload_n 0, 1) := by decide +kernel
theorem dX5_go_1 : decode cX5_go 1 = .ok (.iload_n 1, 1) := by decide +kernel
theorem dX5_go_2 : decode cX5_go 2 = .ok (.invokevirtual 93, 3) := by decide +kernel
theorem dX5_go_5 : decode cX5_go 5 = .ok (.ifCond .ne 5, 3) := by decide +kernel
theorem dX5_go_8 : decode cX5_go 8 = .ok (.iconst 0, 1) := by decide +kernel
theorem dX5_go_9 : decode cX5_go 9 = .ok (.ireturn, 1) := by decide +kernel
theorem dX5_go_10 : decode cX5_go 10 = .ok (.iload_n 1, 1) := by decide +kernel
theorem dX5_go_11 : decode cX5_go 11 = .ok (.aload_n 0, 1) := by decide +kernel
theorem dX5_go_12 : decode cX5_go 12 = .ok (.getfield 18, 3) := by decide +kernel
theorem dX5_go_15 : decode cX5_go 15 = .ok (.idiv, 1) := by decide +kernel
theorem dX5_go_16 : decode cX5_go 16 = .ok (.istore_n 2, 1) := by decide +kernel
theorem dX5_go_17 : decode cX5_go 17 = .ok (.aload_n 0, 1) := by decide +kernel
theorem dX5_go_18 : decode cX5_go 18 = .ok (.getfield 46, 3) := by decide +kernel
theorem dX5_go_21 : decode cX5_go 21 = .ok (.iload_n 2, 1) := by decide +kernel
theorem dX5_go_22 : decode cX5_go 22 = .ok (.aload_n 0, 1) := by decide +kernel
theorem dX5_go_23 : decode cX5_go 23 = .ok (.getfield 25, 3) := by decide +kernel
theorem dX5_go_26 : decode cX5_go 26 = .ok (.invokevirtual 96, 3) := by decide +kernel
theorem dX5_go_29 : decode cX5_go 29 = .ok (.aload_n 0, 1) := by decide +kernel
theorem dX5_go_30 : decode cX5_go 30 = .ok (.iload_n 2, 1) := by decide +kernel
theorem dX5_go_31 : decode cX5_go 31 = .ok (.aload_n 0, 1) := by decide +kernel
theorem dX5_go_32 : decode cX5_go 32 = .ok (.getfield 18, 3) := by decide +kernel
theorem dX5_go_35 : decode cX5_go 35 = .ok (.imul, 1) := by decide +kernel
theorem dX5_go_36 : decode cX5_go 36 = .ok (.putfield 78, 3) := by decide +kernel
theorem dX5_go_39 : decode cX5_go 39 = .ok (.iload_n 1, 1) := by decide +kernel
theorem dX5_go_40 : decode cX5_go 40 = .ok (.aload_n 0, 1) := by decide +kernel
theorem dX5_go_41 : decode cX5_go 41 = .ok (.getfield 78, 3) := by decide +kernel
theorem dX5_go_44 : decode cX5_go 44 = .ok (.isub, 1) := by decide +kernel
theorem dX5_go_45 : decode cX5_go 45 = .ok (.istore_n 3, 1) := by decide +kernel
theorem dX5_go_46 : decode cX5_go 46 = .ok (.iload_n 3, 1) := by decide +kernel
theorem dX5_go_47 : decode cX5_go 47 = .ok (.ifCond .le 13, 3) := by decide +kernel
theorem dX5_go_50 : decode cX5_go 50 = .ok (.aload_n 0, 1) := by decide +kernel
theorem dX5_go_51 : decode cX5_go 51 = .ok (.invokevirtual 100, 3) := by decide +kernel
theorem dX5_go_54 : decode cX5_go 54 = .ok (.iinc 3 (-1), 3) := by decide +kernel
theorem dX5_go_57 : decode cX5_go 57 = .ok (.goto (-11), 3) := by decide +kernel
theorem dX5_go_60 : decode cX5_go 60 = .ok (.iconst 1, 1) := by decide +kernel
theorem dX5_go_61 : decode cX5_go 61 = .ok (.ireturn, 1) := by decide +kernel
set_option maxRecDepth 20000 in
theorem ggX5_far_X5_isOnRecord : GoodIn wsX5_far wsX5_isOnRecord := goodIn_r _ [6, 7, 8, 9, 10, 11, 12, 13, 14, 15, 16, 17] (by decide +kernel) (by decide +kernel)
set_option maxRecDepth 20000 in
theorem gX5_far_X5_isOnRecord : GoodIn wsX5_far (wsV RX5 93 RX5 yX5_isOnRecord wsX5_isOnRecord) := goodIn_app (goodIn_of _ (by decide +kernel)) ggX5_far_X5_isOnRecord
theorem dX5_far_0 : decode cX5_far 0 = .ok (.aload_n 0, 1) := by decide +kernel
theorem dX5_far_1 : decode cX5_far 1 = .ok (.iload_n 1, 1) := by decide +kernel
theorem dX5_far_2 : decode cX5_far 2 = .ok (.invokevirtual 93, 3) := by decide +kernel
theorem dX5_far_5 : decode cX5_far 5 = .ok (.ifCond .eq 12, 3) := by decide +kernel
theorem dX5_far_8 : decode cX5_far 8 = .ok (.iload_n 1, 1) := by decide +kernel
theorem dX5_far_9 : decode cX5_far 9 = .ok (.aload_n 0, 1) := by decide +kernel
theorem dX5_far_10 : decode cX5_far 10 = .ok (.getfield 18, 3) := by decide +kernel
theorem dX5_far_13 : decode cX5_far 13 = .ok (.irem, 1) := by decide +kernel
theorem dX5_far_14 : decode cX5_far 14 = .ok (.goto 4, 3) := by decide +kernel
theorem dX5_far_17 : decode cX5_far 17 = .ok (.iconst (-1), 1) := by decide +kernel
theorem dX5_far_18 : decode cX5_far 18 = .ok (.ireturn, 1) := by decide +kernel
set_option maxRecDepth 20000 in
theorem ggX5_cut_X1_countBefore : GoodIn wsX5_cut wsX1_countBefore := goodIn_r _ [12, 13, 14, 46, 47, 48, 49] (by decide +kernel) (by decide +kernel)
set_option maxRecDepth 20000 in
theorem gX5_cut_X1_countBefore : GoodIn wsX5_cut (wsV RX5 103 RX1 yX1_countBefore wsX1_countBefore) := goodIn_app (goodIn_of _ (by decide +kernel)) ggX5_cut_X1_countBefore
set_option maxRecDepth 20000 in
theorem ggX5_cut_X4_keepFirst : GoodIn wsX5_cut wsX4_keepFirst := goodIn_r _ [19, 20, 21, 22, 23, 24, 25, 26, 27, 28, 29, 30, 31, 32, 33, 34, 35, 36, 50, 51, 52, 53, 54, 55, 56, 57, 58, 59, 60, 61] (by decide +kernel) (by decide +kernel)
set_option maxRecDepth 20000 in
theorem gX5_cut_X4_keepFirst : GoodIn wsX5_cut (wsV RX5 107 RX4 yX4_keepFirst wsX4_keepFirst) := goodIn_app (goodIn_of _ (by decide +kernel)) ggX5_cut_X4_keepFirst
theorem dX5_cut_0 : decode cX5_cut 0 = .ok (.aload_n 0, 1) := by decide +kernel
theorem dX5_cut_1 : decode cX5_cut 1 = .ok (.getfield 50, 3) := by decide +kernel
theorem dX5_cut_4 : decode cX5_cut 4 = .ok (.ifCond .ne 5, 3) := by decide +kernel
theorem dX5_cut_7 : decode cX5_cut 7 = .ok (.iconst (-1), 1) := by decide +kernel
theorem dX5_cut_8 : decode cX5_cut 8 = .ok (.ireturn, 1) := by decide +kernel
theorem dX5_cut_9 : decode cX5_cut 9 = .ok (.aload_n 0, 1) := by decide +kernel
theorem dX5_cut_10 : decode cX5_cut 10 = .ok (.aload_n 0, 1) := by decide +kernel
theorem dX5_cut_11 : decode cX5_cut 11 = .ok (.getfield 78, 3) := by decide +kernel
theorem dX5_cut_14 : decode cX5_cut 14 = .ok (.putfield 81, 3) := by decide +kernel
theorem dX5_cut_17 : decode cX5_cut 17 = .ok (.aload_n 0, 1) := by decide +kernel
theorem dX5_cut_18 : decode cX5_cut 18 = .ok (.getfield 39, 3) := by decide +kernel
theorem dX5_cut_21 : decode cX5_cut 21 = .ok (.aload_n 0, 1) := by decide +kernel
theorem dX5_cut_22 : decode cX5_cut 22 = .ok (.getfield 39, 3) := by decide +kernel
theorem dX5_cut_25 : decode cX5_cut 25 = .ok (.aload_n 0, 1) := by decide +kernel
theorem dX5_cut_26 : decode cX5_cut 26 = .ok (.getfield 78, 3) := by decide +kernel
theorem dX5_cut_29 : decode cX5_cut 29 = .ok (.invokevirtual 103, 3) := by decide +kernel
theorem dX5_cut_32 : decode cX5_cut 32 = .ok (.putfield 68, 3) := by decide +kernel
theorem dX5_cut_35 : decode cX5_cut 35 = .ok (.aload_n 0, 1) := by decide +kernel
theorem dX5_cut_36 : decode cX5_cut 36 = .ok (.getfield 46, 3) := by decide +kernel
theorem dX5_cut_39 : decode cX5_cut 39 = .ok (.aload_n 0, 1) := by decide +kernel
theorem dX5_cut_40 : decode cX5_cut 40 = .ok (.getfield 78, 3) := by decide +kernel
theorem dX5_cut_43 : decode cX5_cut 43 = .ok (.aload_n 0, 1) := by decide +kernel
theorem dX5_cut_44 : decode cX5_cut 44 = .ok (.getfield 18, 3) := by decide +kernel
theorem dX5_cut_47 : decode cX5_cut 47 = .ok (.idiv, 1) := by decide +kernel
theorem dX5_cut_48 : decode cX5_cut 48 = .ok (.iconst 1, 1) := by decide +kernel
theorem dX5_cut_49 : decode cX5_cut 49 = .ok (.iadd, 1) := by decide +kernel
theorem dX5_cut_50 : decode cX5_cut 50 = .ok (.invokevirtual 107, 3) := by decide +kernel
theorem dX5_cut_53 : decode cX5_cut 53 = .ok (.aload_n 0, 1) := by decide +kernel
theorem dX5_cut_54 : decode cX5_cut 54 = .ok (.getfield 39, 3) := by decide +kernel
theorem dX5_cut_57 : decode cX5_cut 57 = .ok (.getfield 68, 3) := by decide +kernel
theorem dX5_cut_60 : decode cX5_cut 60 = .ok (.ireturn, 1) := by decide +kernel
theorem dX5_record_0 : decode cX5_record 0 = .ok (.aload_n 0, 1) := by decide +kernel
theorem dX5_record_1 : decode cX5_record 1 = .ok (.getfield 50, 3) := by decide +kernel
theorem dX5_record_4 : decode cX5_record 4 = .ok (.ifCond .ne 5, 3) := by decide +kernel
theorem dX5_record_7 : decode cX5_record 7 = .ok (.iconst (-1), 1) := by decide +kernel
theorem dX5_record_8 : decode cX5_record 8 = .ok (.ireturn, 1) := by decide +kernel
theorem dX5_record_9 : decode cX5_record 9 = .ok (.iload_n 1, 1) := by decide +kernel
theorem dX5_record_10 : decode cX5_record 10 = .ok (.tableswitch 97 0 6 #[42, 47, 52, 60, 68, 76, 84], 42) := by decide +kernel
theorem dX5_record_52 : decode cX5_record 52 = .ok (.aload_n 0, 1) := by decide +kernel
theorem dX5_record_53 : decode cX5_record 53 = .ok (.getfield 78, 3) := by decide +kernel
theorem dX5_record_56 : decode cX5_record 56 = .ok (.ireturn, 1) := by decide +kernel
theorem dX5_record_57 : decode cX5_record 57 = .ok (.aload_n 0, 1) := by decide +kernel
theorem dX5_record_58 : decode cX5_record 58 = .ok (.getfield 81, 3) := by decide +kernel
theorem dX5_record_61 : decode cX5_record 61 = .ok (.ireturn, 1) := by decide +kernel
theorem dX5_record_62 : decode cX5_record 62 = .ok (.aload_n 0, 1) := by decide +kernel
theorem dX5_record_63 : decode cX5_record 63 = .ok (.getfield 39, 3) := by decide +kernel
theorem dX5_record_66 : decode cX5_record 66 = .ok (.getfield 68, 3) := by decide +kernel
theorem dX5_record_69 : decode cX5_record 69 = .ok (.ireturn, 1) := by decide +kernel
theorem dX5_record_70 : decode cX5_record 70 = .ok (.aload_n 0, 1) := by decide +kernel
theorem dX5_record_71 : decode cX5_record 71 = .ok (.getfield 46, 3) := by decide +kernel
theorem dX5_record_74 : decode cX5_record 74 = .ok (.getfield 110, 3) := by decide +kernel
theorem dX5_record_77 : decode cX5_record 77 = .ok (.ireturn, 1) := by decide +kernel
theorem dX5_record_78 : decode cX5_record 78 = .ok (.aload_n 0, 1) := by decide +kernel
theorem dX5_record_79 : decode cX5_record 79 = .ok (.getfield 46, 3) := by decide +kernel
theorem dX5_record_82 : decode cX5_record 82 = .ok (.getfield 111, 3) := by decide +kernel
theorem dX5_record_85 : decode cX5_record 85 = .ok (.ireturn, 1) := by decide +kernel
theorem dX5_record_86 : decode cX5_record 86 = .ok (.aload_n 0, 1) := by decide +kernel
theorem dX5_record_87 : decode cX5_record 87 = .ok (.getfield 32, 3) := by decide +kernel
theorem dX5_record_90 : decode cX5_record 90 = .ok (.getfield 84, 3) := by decide +kernel
theorem dX5_record_93 : decode cX5_record 93 = .ok (.ireturn, 1) := by decide +kernel
theorem dX5_record_94 : decode cX5_record 94 = .ok (.aload_n 0, 1) := by decide +kernel
theorem dX5_record_95 : decode cX5_record 95 = .ok (.getfield 75, 3) := by decide +kernel
theorem dX5_record_98 : decode cX5_record 98 = .ok (.ifCond .eq 7, 3) := by decide +kernel
theorem dX5_record_101 : decode cX5_record 101 = .ok (.iconst 1, 1) := by decide +kernel
theorem dX5_record_102 : decode cX5_record 102 = .ok (.goto 4, 3) := by decide +kernel
theorem dX5_record_105 : decode cX5_record 105 = .ok (.iconst 0, 1) := by decide +kernel
theorem dX5_record_106 : decode cX5_record 106 = .ok (.ireturn, 1) := by decide +kernel
theorem dX5_record_107 : decode cX5_record 107 = .ok (.iconst (-1), 1) := by decide +kernel
theorem dX5_record_108 : decode cX5_record 108 = .ok (.ireturn, 1) := by decide +kernel
set_option maxRecDepth 20000 in
theorem ggX5_pages_X3_pageCount : GoodIn wsX5_pages wsX3_pageCount := goodIn_r _ [9, 10, 11, 12, 13, 14, 15, 16, 17, 32, 33, 34, 35, 36, 37, 38] (by decide +kernel) (by decide +kernel)
set_option maxRecDepth 20000 in
theorem gX5_pages_X3_pageCount : GoodIn wsX5_pages (wsV RX5 118 RX3 yX3_pageCount wsX3_pageCount) := goodIn_app (goodIn_of _ (by decide +kernel)) ggX5_pages_X3_pageCount
theorem dX5_pages_0 : decode cX5_pages 0 = .ok (.aload_n 0, 1) := by decide +kernel
theorem dX5_pages_1 : decode cX5_pages 1 = .ok (.getfield 50, 3) := by decide +kernel
theorem dX5_pages_4 : decode cX5_pages 4 = .ok (.ifCond .eq 18, 3) := by decide +kernel
theorem dX5_pages_7 : decode cX5_pages 7 = .ok (.iload_n 1, 1) := by decide +kernel
theorem dX5_pages_8 : decode cX5_pages 8 = .ok (.ifCond .lt 14, 3) := by decide +kernel
theorem dX5_pages_11 : decode cX5_pages 11 = .ok (.iload_n 1, 1) := by decide +kernel
theorem dX5_pages_12 : decode cX5_pages 12 = .ok (.aload_n 0, 1) := by decide +kernel
theorem dX5_pages_13 : decode cX5_pages 13 = .ok (.getfield 46, 3) := by decide +kernel
theorem dX5_pages_16 : decode cX5_pages 16 = .ok (.getfield 110, 3) := by decide +kernel
theorem dX5_pages_19 : decode cX5_pages 19 = .ok (.if_icmp .lt 5, 3) := by decide +kernel
theorem dX5_pages_22 : decode cX5_pages 22 = .ok (.iconst (-1), 1) := by decide +kernel
theorem dX5_pages_23 : decode cX5_pages 23 = .ok (.ireturn, 1) := by decide +kernel
theorem dX5_pages_24 : decode cX5_pages 24 = .ok (.aload_n 0, 1) := by decide +kernel
theorem dX5_pages_25 : decode cX5_pages 25 = .ok (.getfield 46, 3) := by decide +kernel
theorem dX5_pages_28 : decode cX5_pages 28 = .ok (.getfield 114, 3) := by decide +kernel
theorem dX5_pages_31 : decode cX5_pages 31 = .ok (.iload_n 1, 1) := by decide +kernel
theorem dX5_pages_32 : decode cX5_pages 32 = .ok (.aaload, 1) := by decide +kernel
theorem dX5_pages_33 : decode cX5_pages 33 = .ok (.invokevirtual 118, 3) := by decide +kernel
theorem dX5_pages_36 : decode cX5_pages 36 = .ok (.ireturn, 1) := by decide +kernel
theorem dX5_log_0 : decode cX5_log 0 = .ok (.aload_n 0, 1) := by decide +kernel
theorem dX5_log_1 : decode cX5_log 1 = .ok (.getfield 50, 3) := by decide +kernel
theorem dX5_log_4 : decode cX5_log 4 = .ok (.ifCond .eq 18, 3) := by decide +kernel
theorem dX5_log_7 : decode cX5_log 7 = .ok (.iload_n 1, 1) := by decide +kernel
theorem dX5_log_8 : decode cX5_log 8 = .ok (.ifCond .lt 14, 3) := by decide +kernel
theorem dX5_log_11 : decode cX5_log 11 = .ok (.iload_n 1, 1) := by decide +kernel
theorem dX5_log_12 : decode cX5_log 12 = .ok (.aload_n 0, 1) := by decide +kernel
theorem dX5_log_13 : decode cX5_log 13 = .ok (.getfield 39, 3) := by decide +kernel
theorem dX5_log_16 : decode cX5_log 16 = .ok (.getfield 68, 3) := by decide +kernel
theorem dX5_log_19 : decode cX5_log 19 = .ok (.if_icmp .lt 5, 3) := by decide +kernel
theorem dX5_log_22 : decode cX5_log 22 = .ok (.iconst (-1), 1) := by decide +kernel
theorem dX5_log_23 : decode cX5_log 23 = .ok (.ireturn, 1) := by decide +kernel
theorem dX5_log_24 : decode cX5_log 24 = .ok (.iload_n 2, 1) := by decide +kernel
theorem dX5_log_25 : decode cX5_log 25 = .ok (.tableswitch 57 0 2 #[27, 37, 47], 27) := by decide +kernel
theorem dX5_log_52 : decode cX5_log 52 = .ok (.aload_n 0, 1) := by decide +kernel
theorem dX5_log_53 : decode cX5_log 53 = .ok (.getfield 39, 3) := by decide +kernel
theorem dX5_log_56 : decode cX5_log 56 = .ok (.getfield 124, 3) := by decide +kernel
theorem dX5_log_59 : decode cX5_log 59 = .ok (.iload_n 1, 1) := by decide +kernel
theorem dX5_log_60 : decode cX5_log 60 = .ok (.iaload, 1) := by decide +kernel
theorem dX5_log_61 : decode cX5_log 61 = .ok (.ireturn, 1) := by decide +kernel
theorem dX5_log_62 : decode cX5_log 62 = .ok (.aload_n 0, 1) := by decide +kernel
theorem dX5_log_63 : decode cX5_log 63 = .ok (.getfield 39, 3) := by decide +kernel
theorem dX5_log_66 : decode cX5_log 66 = .ok (.getfield 127, 3) := by decide +kernel
theorem dX5_log_69 : decode cX5_log 69 = .ok (.iload_n 1, 1) := by decide +kernel
theorem dX5_log_70 : decode cX5_log 70 = .ok (.iaload, 1) := by decide +kernel
theorem dX5_log_71 : decode cX5_log 71 = .ok (.ireturn, 1) := by decide +kernel
theorem dX5_log_72 : decode cX5_log 72 = .ok (.aload_n 0, 1) := by decide +kernel
theorem dX5_log_73 : decode cX5_log 73 = .ok (.getfield 39, 3) := by decide +kernel
theorem dX5_log_76 : decode cX5_log 76 = .ok (.getfield 130, 3) := by decide +kernel
theorem dX5_log_79 : decode cX5_log 79 = .ok (.iload_n 1, 1) := by decide +kernel
theorem dX5_log_80 : decode cX5_log 80 = .ok (.iaload, 1) := by decide +kernel
theorem dX5_log_81 : decode cX5_log 81 = .ok (.ireturn, 1) := by decide +kernel
theorem dX5_log_82 : decode cX5_log 82 = .ok (.iconst (-1), 1) := by decide +kernel
theorem dX5_log_83 : decode cX5_log 83 = .ok (.ireturn, 1) := by decide +kernel
theorem dX5_register_0 : decode cX5_register 0 = .ok (.iload_n 1, 1) := by decide +kernel
theorem dX5_register_1 : decode cX5_register 1 = .ok (.ifCond .lt 19, 3) := by decide +kernel
theorem dX5_register_4 : decode cX5_register 4 = .ok (.iload_n 1, 1) := by decide +kernel
theorem dX5_register_5 : decode cX5_register 5 = .ok (.bipush 8, 2) := by decide +kernel
theorem dX5_register_7 : decode cX5_register 7 = .ok (.if_icmp .ge 13, 3) := by decide +kernel
theorem dX5_register_10 : decode cX5_register 10 = .ok (.aload_n 0, 1) := by decide +kernel
theorem dX5_register_11 : decode cX5_register 11 = .ok (.getfield 25, 3) := by decide +kernel
theorem dX5_register_14 : decode cX5_register 14 = .ok (.getfield 133, 3) := by decide +kernel
theorem dX5_register_17 : decode cX5_register 17 = .ok (.iload_n 1, 1) := by decide +kernel
theorem dX5_register_18 : decode cX5_register 18 = .ok (.iaload, 1) := by decide +kernel
theorem dX5_register_19 : decode cX5_register 19 = .ok (.ireturn, 1) := by decide +kernel
theorem dX5_register_20 : decode cX5_register 20 = .ok (.iload_n 1, 1) := by decide +kernel
theorem dX5_register_21 : decode cX5_register 21 = .ok (.tableswitch 59 8 10 #[27, 35, 43], 27) := by decide +kernel
theorem dX5_register_48 : decode cX5_register 48 = .ok (.aload_n 0, 1) := by decide +kernel
theorem dX5_register_49 : decode cX5_register 49 = .ok (.getfield 25, 3) := by decide +kernel
theorem dX5_register_52 : decode cX5_register 52 = .ok (.getfield 136, 3) := by decide +kernel
theorem dX5_register_55 : decode cX5_register 55 = .ok (.ireturn, 1) := by decide +kernel
theorem dX5_register_56 : decode cX5_register 56 = .ok (.aload_n 0, 1) := by decide +kernel
theorem dX5_register_57 : decode cX5_register 57 = .ok (.getfield 25, 3) := by decide +kernel
theorem dX5_register_60 : decode cX5_register 60 = .ok (.getfield 139, 3) := by decide +kernel
theorem dX5_register_63 : decode cX5_register 63 = .ok (.ireturn, 1) := by decide +kernel
theorem dX5_register_64 : decode cX5_register 64 = .ok (.aload_n 0, 1) := by decide +kernel
theorem dX5_register_65 : decode cX5_register 65 = .ok (.getfield 25, 3) := by decide +kernel
theorem dX5_register_68 : decode cX5_register 68 = .ok (.getfield 142, 3) := by decide +kernel
theorem dX5_register_71 : decode cX5_register 71 = .ok (.ifCond .eq 7, 3) := by decide +kernel
theorem dX5_register_74 : decode cX5_register 74 = .ok (.iconst 1, 1) := by decide +kernel
theorem dX5_register_75 : decode cX5_register 75 = .ok (.goto 4, 3) := by decide +kernel
theorem dX5_register_78 : decode cX5_register 78 = .ok (.iconst 0, 1) := by decide +kernel
theorem dX5_register_79 : decode cX5_register 79 = .ok (.ireturn, 1) := by decide +kernel
theorem dX5_register_80 : decode cX5_register 80 = .ok (.iconst 0, 1) := by decide +kernel
theorem dX5_register_81 : decode cX5_register 81 = .ok (.ireturn, 1) := by decide +kernel
set_option maxRecDepth 20000 in
theorem ggX5_word_X5_isPlace : GoodIn wsX5_word wsX5_isPlace := goodIn_r _ [6] (by decide +kernel) (by decide +kernel)
set_option maxRecDepth 20000 in
theorem gX5_word_X5_isPlace : GoodIn wsX5_word (va_wsS RX5 54 yX5_isPlace wsX5_isPlace) := goodIn_app (goodIn_of _ (by decide +kernel)) ggX5_word_X5_isPlace
theorem dX5_word_0 : decode cX5_word 0 = .ok (.iload_n 1, 1) := by decide +kernel
theorem dX5_word_1 : decode cX5_word 1 = .ok (.invokestatic 54, 3) := by decide +kernel
theorem dX5_word_4 : decode cX5_word 4 = .ok (.ifCond .eq 15, 3) := by decide +kernel
theorem dX5_word_7 : decode cX5_word 7 = .ok (.aload_n 0, 1) := by decide +kernel
theorem dX5_word_8 : decode cX5_word 8 = .ok (.getfield 25, 3) := by decide +kernel
theorem dX5_word_11 : decode cX5_word 11 = .ok (.getfield 58, 3) := by decide +kernel
theorem dX5_word_14 : decode cX5_word 14 = .ok (.iload_n 1, 1) := by decide +kernel
theorem dX5_word_15 : decode cX5_word 15 = .ok (.iaload, 1) := by decide +kernel
theorem dX5_word_16 : decode cX5_word 16 = .ok (.goto 4, 3) := by decide +kernel
theorem dX5_word_19 : decode cX5_word 19 = .ok (.iconst 0, 1) := by decide +kernel
theorem dX5_word_20 : decode cX5_word 20 = .ok (.ireturn, 1) := by decide +kernel
theorem dX5_outs_0 : decode cX5_outs 0 = .ok (.aload_n 0, 1) := by decide +kernel
theorem dX5_outs_1 : decode cX5_outs 1 = .ok (.getfield 25, 3) := by decide +kernel
theorem dX5_outs_4 : decode cX5_outs 4 = .ok (.getfield 145, 3) := by decide +kernel
theorem dX5_outs_7 : decode cX5_outs 7 = .ok (.ireturn, 1) := by decide +kernel
theorem dX5_out_0 : decode cX5_out 0 = .ok (.iload_n 1, 1) := by decide +kernel
theorem dX5_out_1 : decode cX5_out 1 = .ok (.ifCond .lt 20, 3) := by decide +kernel
theorem dX5_out_4 : decode cX5_out 4 = .ok (.iload_n 1, 1) := by decide +kernel
theorem dX5_out_5 : decode cX5_out 5 = .ok (.aload_n 0, 1) := by decide +kernel
theorem dX5_out_6 : decode cX5_out 6 = .ok (.getfield 25, 3) := by decide +kernel
theorem dX5_out_9 : decode cX5_out 9 = .ok (.getfield 145, 3) := by decide +kernel
theorem dX5_out_12 : decode cX5_out 12 = .ok (.if_icmp .ge 9, 3) := by decide +kernel
theorem dX5_out_15 : decode cX5_out 15 = .ok (.iload_n 1, 1) := by decide +kernel
theorem dX5_out_16 : decode cX5_out 16 = .ok (.bipush 64, 2) := by decide +kernel
theorem dX5_out_18 : decode cX5_out 18 = .ok (.if_icmp .lt 5, 3) := by decide +kernel
theorem dX5_out_21 : decode cX5_out 21 = .ok (.iconst 0, 1) := by decide +kernel
theorem dX5_out_22 : decode cX5_out 22 = .ok (.ireturn, 1) := by decide +kernel
theorem dX5_out_23 : decode cX5_out 23 = .ok (.aload_n 0, 1) := by decide +kernel
theorem dX5_out_24 : decode cX5_out 24 = .ok (.getfield 25, 3) := by decide +kernel
theorem dX5_out_27 : decode cX5_out 27 = .ok (.getfield 148, 3) := by decide +kernel
theorem dX5_out_30 : decode cX5_out 30 = .ok (.iload_n 1, 1) := by decide +kernel
theorem dX5_out_31 : decode cX5_out 31 = .ok (.iaload, 1) := by decide +kernel
theorem dX5_out_32 : decode cX5_out 32 = .ok (.ireturn, 1) := by decide +kernel
theorem dX5_isPlace_0 : decode cX5_isPlace 0 = .ok (.iload_n 0, 1) := by decide +kernel
theorem dX5_isPlace_1 : decode cX5_isPlace 1 = .ok (.ifCond .lt 14, 3) := by decide +kernel
theorem dX5_isPlace_4 : decode cX5_isPlace 4 = .ok (.iload_n 0, 1) := by decide +kernel
theorem dX5_isPlace_5 : decode cX5_isPlace 5 = .ok (.sipush 512, 3) := by decide +kernel
theorem dX5_isPlace_8 : decode cX5_isPlace 8 = .ok (.if_icmp .ge 7, 3) := by decide +kernel
theorem dX5_isPlace_11 : decode cX5_isPlace 11 = .ok (.iconst 1, 1) := by decide +kernel
theorem dX5_isPlace_12 : decode cX5_isPlace 12 = .ok (.goto 4, 3) := by decide +kernel
theorem dX5_isPlace_15 : decode cX5_isPlace 15 = .ok (.iconst 0, 1) := by decide +kernel
theorem dX5_isPlace_16 : decode cX5_isPlace 16 = .ok (.ireturn, 1) := by decide +kernel
theorem dX5_placeOf_0 : decode cX5_placeOf 0 = .ok (.iload_n 0, 1) := by decide +kernel
theorem dX5_placeOf_1 : decode cX5_placeOf 1 = .ok (.sipush 511, 3) := by decide +kernel
theorem dX5_placeOf_4 : decode cX5_placeOf 4 = .ok (.iand, 1) := by decide +kernel
theorem dX5_placeOf_5 : decode cX5_placeOf 5 = .ok (.ireturn, 1) := by decide +kernel
theorem dX5_isOnRecord_0 : decode cX5_isOnRecord 0 = .ok (.aload_n 0, 1) := by decide +kernel
theorem dX5_isOnRecord_1 : decode cX5_isOnRecord 1 = .ok (.getfield 50, 3) := by decide +kernel
theorem dX5_isOnRecord_4 : decode cX5_isOnRecord 4 = .ok (.ifCond .eq 19, 3) := by decide +kernel
theorem dX5_isOnRecord_7 : decode cX5_isOnRecord 7 = .ok (.iload_n 1, 1) := by decide +kernel
theorem dX5_isOnRecord_8 : decode cX5_isOnRecord 8 = .ok (.ifCond .lt 15, 3) := by decide +kernel
theorem dX5_isOnRecord_11 : decode cX5_isOnRecord 11 = .ok (.iload_n 1, 1) := by decide +kernel
theorem dX5_isOnRecord_12 : decode cX5_isOnRecord 12 = .ok (.aload_n 0, 1) := by decide +kernel
theorem dX5_isOnRecord_13 : decode cX5_isOnRecord 13 = .ok (.getfield 81, 3) := by decide +kernel
theorem dX5_isOnRecord_16 : decode cX5_isOnRecord 16 = .ok (.if_icmp .gt 7, 3) := by decide +kernel
theorem dX5_isOnRecord_19 : decode cX5_isOnRecord 19 = .ok (.iconst 1, 1) := by decide +kernel
theorem dX5_isOnRecord_20 : decode cX5_isOnRecord 20 = .ok (.goto 4, 3) := by decide +kernel
theorem dX5_isOnRecord_23 : decode cX5_isOnRecord 23 = .ok (.iconst 0, 1) := by decide +kernel
theorem dX5_isOnRecord_24 : decode cX5_isOnRecord 24 = .ok (.ireturn, 1) := by decide +kernel
set_option maxRecDepth 20000 in
theorem ggX5_tryStep_X5_stepByLog : GoodIn wsX5_tryStep wsX5_stepByLog := goodIn_r _ [7, 8, 1, 9, 10, 11, 12, 13, 14, 15, 16, 17, 18, 19, 20, 21, 22, 6, 23, 24, 2, 25, 26, 27, 28, 29, 30, 31, 32, 33, 34, 35, 36, 37, 38, 39, 40, 41, 42, 43, 44, 45, 46, 47, 48, 49, 50, 51, 52, 53, 54, 55, 56, 57, 58, 59, 60, 61, 62, 63, 64, 65, 66, 67, 68, 69, 70, 71, 72, 73, 74, 75, 76, 77, 78, 79, 80, 81, 82, 83, 84, 85, 86, 87, 88, 89, 90, 91, 92, 93, 94, 95, 96, 97, 98, 99, 100, 101, 102, 103, 104, 105, 106, 107, 108, 109, 110, 111, 112, 113, 114, 115, 116, 117, 118, 119, 120, 171, 172, 173, 174, 175, 176, 177, 178, 179, 180, 181, 182, 183, 184, 185, 186, 187, 188, 189, 190, 191, 192, 193, 194, 195, 196, 197, 198, 199, 200, 201, 202, 203] (by decide +kernel) (by decide +kernel)
set_option maxRecDepth 20000 in
theorem gX5_tryStep_X5_stepByLog : GoodIn wsX5_tryStep (wsV RX5 100 RX5 yX5_stepByLog wsX5_stepByLog) := goodIn_app (goodIn_of _ (by decide +kernel)) ggX5_tryStep_X5_stepByLog
set_option maxRecDepth 20000 in
theorem ggX5_tryStep_X5_nextLiveKind : GoodIn wsX5_tryStep wsX5_nextLiveKind := goodIn_r _ [124, 125, 24, 126, 127, 128, 129, 130, 131, 31, 132, 40, 33, 171, 172, 173, 174, 175, 176, 177, 178, 179, 184, 185, 186, 187, 188, 189, 190, 191, 204, 205, 206] (by decide +kernel) (by decide +kernel)
set_option maxRecDepth 20000 in
theorem gX5_tryStep_X5_nextLiveKind : GoodIn wsX5_tryStep (wsV RX5 151 RX5 yX5_nextLiveKind wsX5_nextLiveKind) := goodIn_app (goodIn_of _ (by decide +kernel)) ggX5_tryStep_X5_nextLiveKind
set_option maxRecDepth 20000 in
theorem ggX5_tryStep_X5_isFull : GoodIn wsX5_tryStep wsX5_isFull := goodIn_r _ [136, 8, 9, 2, 25, 24, 27, 26, 137, 138, 139, 31, 140, 70, 40, 33, 141, 130, 131, 132, 59, 60, 61, 62, 41, 47, 48, 49, 63, 64, 65, 45, 6, 46, 71, 72, 73, 142, 143, 144, 87, 145, 90, 91, 146, 147, 148, 149, 150, 151, 152, 171, 172, 173, 174, 175, 176, 177, 178, 179, 180, 181, 182, 183, 184, 185, 186, 187, 188, 189, 190, 191, 192, 193, 194, 195, 196] (by decide +kernel) (by decide +kernel)
set_option maxRecDepth 20000 in
theorem gX5_tryStep_X5_isFull : GoodIn wsX5_tryStep (wsV RX5 154 RX5 yX5_isFull wsX5_isFull) := goodIn_app (goodIn_of _ (by decide +kernel)) ggX5_tryStep_X5_isFull
set_option maxRecDepth 20000 in
theorem ggX5_tryStep_X5_stepLive : GoodIn wsX5_tryStep wsX5_stepLive := goodIn_r _ [156, 125, 127, 8, 1, 157, 158, 159, 160, 161, 162, 163, 164, 165, 166, 167, 16, 168, 19, 18, 169, 170, 20, 21, 22, 6, 23, 24, 2, 25, 26, 27, 28, 29, 30, 31, 32, 33, 34, 35, 36, 37, 38, 39, 40, 41, 42, 43, 44, 45, 46, 47, 48, 49, 50, 51, 52, 53, 54, 55, 56, 57, 58, 59, 60, 61, 62, 63, 64, 65, 66, 67, 68, 69, 70, 71, 72, 73, 74, 75, 76, 77, 78, 79, 80, 81, 82, 83, 84, 85, 86, 87, 88, 89, 90, 91, 92, 93, 94, 95, 96, 97, 98, 99, 100, 101, 102, 103, 104, 105, 106, 107, 108, 109, 110, 111, 112, 113, 114, 115, 116, 117, 118, 119, 120, 171, 172, 173, 174, 175, 176, 177, 178, 179, 204, 205, 206, 180, 181, 182, 183, 184, 185, 186, 187, 188, 189, 190, 191, 192, 193, 194, 195, 196, 197, 198, 199, 200, 201, 202, 203] (by decide +kernel) (by decide +kernel)
set_option maxRecDepth 20000 in
theorem gX5_tryStep_X5_stepLive : GoodIn wsX5_tryStep (wsV RX5 157 RX5 yX5_stepLive wsX5_stepLive) := goodIn_app (goodIn_of _ (by decide +kernel)) ggX5_tryStep_X5_stepLive
theorem dX5_tryStep_0 : decode cX5_tryStep 0 = .ok (.aload_n 0, 1) := by decide +kernel
theorem dX5_tryStep_1 : decode cX5_tryStep 1 = .ok (.getfield 78, 3) := by decide +kernel
theorem dX5_tryStep_4 : decode cX5_tryStep 4 = .ok (.aload_n 0, 1) := by decide +kernel
theorem dX5_tryStep_5 : decode cX5_tryStep 5 = .ok (.getfield 81, 3) := by decide +kernel
theorem dX5_tryStep_8 : decode cX5_tryStep 8 = .ok (.if_icmp .ge 9, 3) := by decide +kernel
theorem dX5_tryStep_11 : decode cX5_tryStep 11 = .ok (.aload_n 0, 1) := by decide +kernel
theorem dX5_tryStep_12 : decode cX5_tryStep 12 = .ok (.invokevirtual 100, 3) := by decide +kernel
theorem dX5_tryStep_15 : decode cX5_tryStep 15 = .ok (.iconst 1, 1) := by decide +kernel
theorem dX5_tryStep_16 : decode cX5_tryStep 16 = .ok (.ireturn, 1) := by decide +kernel
theorem dX5_tryStep_17 : decode cX5_tryStep 17 = .ok (.aload_n 0, 1) := by decide +kernel
theorem dX5_tryStep_18 : decode cX5_tryStep 18 = .ok (.invokevirtual 151, 3) := by decide +kernel
theorem dX5_tryStep_21 : decode cX5_tryStep 21 = .ok (.istore_n 1, 1) := by decide +kernel
theorem dX5_tryStep_22 : decode cX5_tryStep 22 = .ok (.iload_n 1, 1) := by decide +kernel
theorem dX5_tryStep_23 : decode cX5_tryStep 23 = .ok (.iconst (-1), 1) := by decide +kernel
theorem dX5_tryStep_24 : decode cX5_tryStep 24 = .ok (.if_icmp .eq 11, 3) := by decide +kernel
theorem dX5_tryStep_27 : decode cX5_tryStep 27 = .ok (.aload_n 0, 1) := by decide +kernel
theorem dX5_tryStep_28 : decode cX5_tryStep 28 = .ok (.iload_n 1, 1) := by decide +kernel
theorem dX5_tryStep_29 : decode cX5_tryStep 29 = .ok (.invokevirtual 154, 3) := by decide +kernel
theorem dX5_tryStep_32 : decode cX5_tryStep 32 = .ok (.ifCond .eq 5, 3) := by decide +kernel
theorem dX5_tryStep_35 : decode cX5_tryStep 35 = .ok (.iconst 0, 1) := by decide +kernel
theorem dX5_tryStep_36 : decode cX5_tryStep 36 = .ok (.ireturn, 1) := by decide +kernel
theorem dX5_tryStep_37 : decode cX5_tryStep 37 = .ok (.aload_n 0, 1) := by decide +kernel
theorem dX5_tryStep_38 : decode cX5_tryStep 38 = .ok (.iload_n 1, 1) := by decide +kernel
theorem dX5_tryStep_39 : decode cX5_tryStep 39 = .ok (.invokevirtual 157, 3) := by decide +kernel
theorem dX5_tryStep_42 : decode cX5_tryStep 42 = .ok (.iconst 1, 1) := by decide +kernel
theorem dX5_tryStep_43 : decode cX5_tryStep 43 = .ok (.ireturn, 1) := by decide +kernel
set_option maxRecDepth 20000 in
theorem ggX5_nextLiveKind_X2_nextOp : GoodIn wsX5_nextLiveKind wsX2_nextOp := goodIn_r _ [10, 11, 12, 22, 23, 24, 25, 26, 27, 28, 29] (by decide +kernel) (by decide +kernel)
set_option maxRecDepth 20000 in
theorem gX5_nextLiveKind_X2_nextOp : GoodIn wsX5_nextLiveKind (wsV RX5 160 RX2 yX2_nextOp wsX2_nextOp) := goodIn_app (goodIn_of _ (by decide +kernel)) ggX5_nextLiveKind_X2_nextOp
theorem dX5_nextLiveKind_0 : decode cX5_nextLiveKind 0 = .ok (.aload_n 0, 1) := by decide +kernel
theorem dX5_nextLiveKind_1 : decode cX5_nextLiveKind 1 = .ok (.getfield 75, 3) := by decide +kernel
theorem dX5_nextLiveKind_4 : decode cX5_nextLiveKind 4 = .ok (.ifCond .eq 15, 3) := by decide +kernel
theorem dX5_nextLiveKind_7 : decode cX5_nextLiveKind 7 = .ok (.aload_n 0, 1) := by decide +kernel
theorem dX5_nextLiveKind_8 : decode cX5_nextLiveKind 8 = .ok (.getfield 25, 3) := by decide +kernel
theorem dX5_nextLiveKind_11 : decode cX5_nextLiveKind 11 = .ok (.getfield 142, 3) := by decide +kernel
theorem dX5_nextLiveKind_14 : decode cX5_nextLiveKind 14 = .ok (.ifCond .eq 5, 3) := by decide +kernel
theorem dX5_nextLiveKind_17 : decode cX5_nextLiveKind 17 = .ok (.iconst 2, 1) := by decide +kernel
theorem dX5_nextLiveKind_18 : decode cX5_nextLiveKind 18 = .ok (.ireturn, 1) := by decide +kernel
theorem dX5_nextLiveKind_19 : decode cX5_nextLiveKind 19 = .ok (.aload_n 0, 1) := by decide +kernel
theorem dX5_nextLiveKind_20 : decode cX5_nextLiveKind 20 = .ok (.getfield 25, 3) := by decide +kernel
theorem dX5_nextLiveKind_23 : decode cX5_nextLiveKind 23 = .ok (.invokevirtual 160, 3) := by decide +kernel
theorem dX5_nextLiveKind_26 : decode cX5_nextLiveKind 26 = .ok (.istore_n 1, 1) := by decide +kernel
theorem dX5_nextLiveKind_27 : decode cX5_nextLiveKind 27 = .ok (.iload_n 1, 1) := by decide +kernel
theorem dX5_nextLiveKind_28 : decode cX5_nextLiveKind 28 = .ok (.ifCond .ne 5, 3) := by decide +kernel
theorem dX5_nextLiveKind_31 : decode cX5_nextLiveKind 31 = .ok (.iconst (-1), 1) := by decide +kernel
theorem dX5_nextLiveKind_32 : decode cX5_nextLiveKind 32 = .ok (.ireturn, 1) := by decide +kernel
theorem dX5_nextLiveKind_33 : decode cX5_nextLiveKind 33 = .ok (.iload_n 1, 1) := by decide +kernel
theorem dX5_nextLiveKind_34 : decode cX5_nextLiveKind 34 = .ok (.bipush 12, 2) := by decide +kernel
theorem dX5_nextLiveKind_36 : decode cX5_nextLiveKind 36 = .ok (.if_icmp .eq 5, 3) := by decide +kernel
theorem dX5_nextLiveKind_39 : decode cX5_nextLiveKind 39 = .ok (.iconst 0, 1) := by decide +kernel
theorem dX5_nextLiveKind_40 : decode cX5_nextLiveKind 40 = .ok (.ireturn, 1) := by decide +kernel
theorem dX5_nextLiveKind_41 : decode cX5_nextLiveKind 41 = .ok (.aload_n 0, 1) := by decide +kernel
theorem dX5_nextLiveKind_42 : decode cX5_nextLiveKind 42 = .ok (.getfield 32, 3) := by decide +kernel
theorem dX5_nextLiveKind_45 : decode cX5_nextLiveKind 45 = .ok (.getfield 84, 3) := by decide +kernel
theorem dX5_nextLiveKind_48 : decode cX5_nextLiveKind 48 = .ok (.ifCond .le 7, 3) := by decide +kernel
theorem dX5_nextLiveKind_51 : decode cX5_nextLiveKind 51 = .ok (.iconst 1, 1) := by decide +kernel
theorem dX5_nextLiveKind_52 : decode cX5_nextLiveKind 52 = .ok (.goto 4, 3) := by decide +kernel
theorem dX5_nextLiveKind_55 : decode cX5_nextLiveKind 55 = .ok (.iconst (-1), 1) := by decide +kernel
theorem dX5_nextLiveKind_56 : decode cX5_nextLiveKind 56 = .ok (.ireturn, 1) := by decide +kernel
set_option maxRecDepth 20000 in
theorem ggX5_isFull_X2_writtenWithNext : GoodIn wsX5_isFull wsX2_writtenWithNext := goodIn_r _ [12, 13, 14, 15, 16, 17, 18, 11, 19, 20, 21, 22, 23, 24, 25, 26, 27, 28, 29, 30, 31, 32, 33, 34, 35, 36, 64, 65, 66, 67, 68, 69, 70, 71] (by decide +kernel) (by decide +kernel)
set_option maxRecDepth 20000 in
theorem gX5_isFull_X2_writtenWithNext : GoodIn wsX5_isFull (wsV RX5 166 RX2 yX2_writtenWithNext wsX2_writtenWithNext) := goodIn_app (goodIn_of _ (by decide +kernel)) ggX5_isFull_X2_writtenWithNext
set_option maxRecDepth 20000 in
theorem ggX5_isFull_X4_hasRoomFor : GoodIn wsX5_isFull wsX4_hasRoomFor := goodIn_r _ [41, 42, 43, 44, 45, 46, 47, 48, 49, 50, 72, 73, 74, 75, 76] (by decide +kernel) (by decide +kernel)
set_option maxRecDepth 20000 in
theorem gX5_isFull_X4_hasRoomFor : GoodIn wsX5_isFull (wsV RX5 169 RX4 yX4_hasRoomFor wsX4_hasRoomFor) := goodIn_app (goodIn_of _ (by decide +kernel)) ggX5_isFull_X4_hasRoomFor
theorem dX5_isFull_0 : decode cX5_isFull 0 = .ok (.iload_n 1, 1) := by decide +kernel
theorem dX5_isFull_1 : decode cX5_isFull 1 = .ok (.ifCond .eq 18, 3) := by decide +kernel
theorem dX5_isFull_4 : decode cX5_isFull 4 = .ok (.aload_n 0, 1) := by decide +kernel
theorem dX5_isFull_5 : decode cX5_isFull 5 = .ok (.getfield 39, 3) := by decide +kernel
theorem dX5_isFull_8 : decode cX5_isFull 8 = .ok (.getfield 68, 3) := by decide +kernel
theorem dX5_isFull_11 : decode cX5_isFull 11 = .ok (.sipush 300, 3) := by decide +kernel
theorem dX5_isFull_14 : decode cX5_isFull 14 = .ok (.if_icmp .lt 5, 3) := by decide +kernel
theorem dX5_isFull_17 : decode cX5_isFull 17 = .ok (.iconst 1, 1) := by decide +kernel
theorem dX5_isFull_18 : decode cX5_isFull 18 = .ok (.ireturn, 1) := by decide +kernel
theorem dX5_isFull_19 : decode cX5_isFull 19 = .ok (.aload_n 0, 1) := by decide +kernel
theorem dX5_isFull_20 : decode cX5_isFull 20 = .ok (.getfield 81, 3) := by decide +kernel
theorem dX5_isFull_23 : decode cX5_isFull 23 = .ok (.iconst 1, 1) := by decide +kernel
theorem dX5_isFull_24 : decode cX5_isFull 24 = .ok (.iadd, 1) := by decide +kernel
theorem dX5_isFull_25 : decode cX5_isFull 25 = .ok (.aload_n 0, 1) := by decide +kernel
theorem dX5_isFull_26 : decode cX5_isFull 26 = .ok (.getfield 18, 3) := by decide +kernel
theorem dX5_isFull_29 : decode cX5_isFull 29 = .ok (.irem, 1) := by decide +kernel
theorem dX5_isFull_30 : decode cX5_isFull 30 = .ok (.ifCond .eq 5, 3) := by decide +kernel
theorem dX5_isFull_33 : decode cX5_isFull 33 = .ok (.iconst 0, 1) := by decide +kernel
theorem dX5_isFull_34 : decode cX5_isFull 34 = .ok (.ireturn, 1) := by decide +kernel
theorem dX5_isFull_35 : decode cX5_isFull 35 = .ok (.iload_n 1, 1) := by decide +kernel
theorem dX5_isFull_36 : decode cX5_isFull 36 = .ok (.iconst 2, 1) := by decide +kernel
theorem dX5_isFull_37 : decode cX5_isFull 37 = .ok (.if_icmp .ne 13, 3) := by decide +kernel
theorem dX5_isFull_40 : decode cX5_isFull 40 = .ok (.aload_n 0, 1) := by decide +kernel
theorem dX5_isFull_41 : decode cX5_isFull 41 = .ok (.getfield 25, 3) := by decide +kernel
theorem dX5_isFull_44 : decode cX5_isFull 44 = .ok (.getfield 163, 3) := by decide +kernel
theorem dX5_isFull_47 : decode cX5_isFull 47 = .ok (.goto 10, 3) := by decide +kernel
theorem dX5_isFull_50 : decode cX5_isFull 50 = .ok (.aload_n 0, 1) := by decide +kernel
theorem dX5_isFull_51 : decode cX5_isFull 51 = .ok (.getfield 25, 3) := by decide +kernel
theorem dX5_isFull_54 : decode cX5_isFull 54 = .ok (.invokevirtual 166, 3) := by decide +kernel
theorem dX5_isFull_57 : decode cX5_isFull 57 = .ok (.istore_n 2, 1) := by decide +kernel
theorem dX5_isFull_58 : decode cX5_isFull 58 = .ok (.aload_n 0, 1) := by decide +kernel
theorem dX5_isFull_59 : decode cX5_isFull 59 = .ok (.getfield 46, 3) := by decide +kernel
theorem dX5_isFull_62 : decode cX5_isFull 62 = .ok (.iload_n 2, 1) := by decide +kernel
theorem dX5_isFull_63 : decode cX5_isFull 63 = .ok (.invokevirtual 169, 3) := by decide +kernel
theorem dX5_isFull_66 : decode cX5_isFull 66 = .ok (.ifCond .ne 7, 3) := by decide +kernel
theorem dX5_isFull_69 : decode cX5_isFull 69 = .ok (.iconst 1, 1) := by decide +kernel
theorem dX5_isFull_70 : decode cX5_isFull 70 = .ok (.goto 4, 3) := by decide +kernel
theorem dX5_isFull_73 : decode cX5_isFull 73 = .ok (.iconst 0, 1) := by decide +kernel
theorem dX5_isFull_74 : decode cX5_isFull 74 = .ok (.ireturn, 1) := by decide +kernel
set_option maxRecDepth 20000 in
theorem ggX5_stepLive_X0_take : GoodIn wsX5_stepLive wsX0_take := goodIn_r _ [9, 10, 11, 12, 134, 135, 136] (by decide +kernel) (by decide +kernel)
set_option maxRecDepth 20000 in
theorem gX5_stepLive_X0_take : GoodIn wsX5_stepLive (wsV RX5 172 RX0 yX0_take wsX0_take) := goodIn_app (goodIn_of _ (by decide +kernel)) ggX5_stepLive_X0_take
set_option maxRecDepth 20000 in
theorem ggX5_stepLive_X1_add : GoodIn wsX5_stepLive wsX1_add := goodIn_r _ [17, 18, 19, 20, 21, 137, 138, 139, 140] (by decide +kernel) (by decide +kernel)
set_option maxRecDepth 20000 in
theorem gX5_stepLive_X1_add : GoodIn wsX5_stepLive (wsV RX5 175 RX1 yX1_add wsX1_add) := goodIn_app (goodIn_of _ (by decide +kernel)) ggX5_stepLive_X1_add
set_option maxRecDepth 20000 in
theorem ggX5_stepLive_X5_advance : GoodIn wsX5_stepLive wsX5_advance := goodIn_r _ [26, 27, 4, 28, 29, 30, 31, 32, 33, 34, 35, 36, 37, 38, 39, 40, 41, 42, 43, 44, 45, 46, 47, 48, 49, 25, 50, 51, 52, 53, 54, 55, 56, 57, 58, 59, 60, 61, 62, 63, 64, 65, 66, 67, 68, 69, 70, 71, 72, 73, 74, 75, 76, 77, 78, 79, 80, 81, 82, 83, 84, 85, 86, 87, 88, 89, 90, 91, 92, 93, 94, 95, 96, 97, 98, 99, 100, 101, 102, 103, 104, 105, 106, 107, 108, 109, 110, 111, 112, 113, 114, 115, 116, 117, 118, 119, 120, 121, 122, 123, 124, 125, 126, 127, 128, 129, 130, 131, 132, 133, 141, 142, 143, 144, 145, 146, 147, 148, 149, 150, 151, 152, 153, 154, 155, 156, 157, 158, 159, 160] (by decide +kernel) (by decide +kernel)
set_option maxRecDepth 20000 in
theorem gX5_stepLive_X5_advance : GoodIn wsX5_stepLive (wsV RX5 178 RX5 yX5_advance wsX5_advance) := goodIn_app (goodIn_of _ (by decide +kernel)) ggX5_stepLive_X5_advance
theorem dX5_stepLive_0 : decode cX5_stepLive 0 = .ok (.iconst 0, 1) := by decide +kernel
theorem dX5_stepLive_1 : decode cX5_stepLive 1 = .ok (.istore_n 2, 1) := by decide +kernel
theorem dX5_stepLive_2 : decode cX5_stepLive 2 = .ok (.iload_n 1, 1) := by decide +kernel
theorem dX5_stepLive_3 : decode cX5_stepLive 3 = .ok (.iconst 2, 1) := by decide +kernel
theorem dX5_stepLive_4 : decode cX5_stepLive 4 = .ok (.if_icmp .ne 11, 3) := by decide +kernel
theorem dX5_stepLive_7 : decode cX5_stepLive 7 = .ok (.aload_n 0, 1) := by decide +kernel
theorem dX5_stepLive_8 : decode cX5_stepLive 8 = .ok (.iconst 0, 1) := by decide +kernel
theorem dX5_stepLive_9 : decode cX5_stepLive 9 = .ok (.putfield 75, 3) := by decide +kernel
theorem dX5_stepLive_12 : decode cX5_stepLive 12 = .ok (.goto 16, 3) := by decide +kernel
theorem dX5_stepLive_15 : decode cX5_stepLive 15 = .ok (.iload_n 1, 1) := by decide +kernel
theorem dX5_stepLive_16 : decode cX5_stepLive 16 = .ok (.iconst 1, 1) := by decide +kernel
theorem dX5_stepLive_17 : decode cX5_stepLive 17 = .ok (.if_icmp .ne 11, 3) := by decide +kernel
theorem dX5_stepLive_20 : decode cX5_stepLive 20 = .ok (.aload_n 0, 1) := by decide +kernel
theorem dX5_stepLive_21 : decode cX5_stepLive 21 = .ok (.getfield 32, 3) := by decide +kernel
theorem dX5_stepLive_24 : decode cX5_stepLive 24 = .ok (.invokevirtual 172, 3) := by decide +kernel
theorem dX5_stepLive_27 : decode cX5_stepLive 27 = .ok (.istore_n 2, 1) := by decide +kernel
theorem dX5_stepLive_28 : decode cX5_stepLive 28 = .ok (.iload_n 1, 1) := by decide +kernel
theorem dX5_stepLive_29 : decode cX5_stepLive 29 = .ok (.ifCond .eq 16, 3) := by decide +kernel
theorem dX5_stepLive_32 : decode cX5_stepLive 32 = .ok (.aload_n 0, 1) := by decide +kernel
theorem dX5_stepLive_33 : decode cX5_stepLive 33 = .ok (.getfield 39, 3) := by decide +kernel
theorem dX5_stepLive_36 : decode cX5_stepLive 36 = .ok (.aload_n 0, 1) := by decide +kernel
theorem dX5_stepLive_37 : decode cX5_stepLive 37 = .ok (.getfield 78, 3) := by decide +kernel
theorem dX5_stepLive_40 : decode cX5_stepLive 40 = .ok (.iload_n 1, 1) := by decide +kernel
theorem dX5_stepLive_41 : decode cX5_stepLive 41 = .ok (.iload_n 2, 1) := by decide +kernel
theorem dX5_stepLive_42 : decode cX5_stepLive 42 = .ok (.invokevirtual 175, 3) := by decide +kernel
theorem dX5_stepLive_45 : decode cX5_stepLive 45 = .ok (.aload_n 0, 1) := by decide +kernel
theorem dX5_stepLive_46 : decode cX5_stepLive 46 = .ok (.iload_n 1, 1) := by decide +kernel
theorem dX5_stepLive_47 : decode cX5_stepLive 47 = .ok (.iload_n 2, 1) := by decide +kernel
theorem dX5_stepLive_48 : decode cX5_stepLive 48 = .ok (.invokevirtual 178, 3) := by decide +kernel
theorem dX5_stepLive_51 : decode cX5_stepLive 51 = .ok (.return_, 1) := by decide +kernel
set_option maxRecDepth 20000 in
theorem ggX5_stepByLog_X1_countBefore : GoodIn wsX5_stepByLog wsX1_countBefore := goodIn_r _ [11, 12, 13, 126, 127, 128, 129] (by decide +kernel) (by decide +kernel)
set_option maxRecDepth 20000 in
theorem gX5_stepByLog_X1_countBefore : GoodIn wsX5_stepByLog (wsV RX5 103 RX1 yX1_countBefore wsX1_countBefore) := goodIn_app (goodIn_of _ (by decide +kernel)) ggX5_stepByLog_X1_countBefore
set_option maxRecDepth 20000 in
theorem ggX5_stepByLog_X5_advance : GoodIn wsX5_stepByLog wsX5_advance := goodIn_r _ [18, 19, 2, 20, 21, 22, 23, 24, 25, 26, 27, 28, 29, 30, 31, 32, 33, 34, 35, 36, 37, 38, 39, 40, 41, 17, 42, 43, 44, 45, 46, 47, 48, 49, 50, 51, 52, 53, 54, 55, 56, 57, 58, 59, 60, 61, 62, 63, 64, 65, 66, 67, 68, 69, 70, 71, 72, 73, 74, 75, 76, 77, 78, 79, 80, 81, 82, 83, 84, 85, 86, 87, 88, 89, 90, 91, 92, 93, 94, 95, 96, 97, 98, 99, 100, 101, 102, 103, 104, 105, 106, 107, 108, 109, 110, 111, 112, 113, 114, 115, 116, 117, 118, 119, 120, 121, 122, 123, 124, 125, 130, 131, 132, 133, 134, 135, 136, 137, 138, 139, 140, 141, 142, 143, 144, 145, 146, 147, 148, 149] (by decide +kernel) (by decide +kernel)
set_option maxRecDepth 20000 in
theorem gX5_stepByLog_X5_advance : GoodIn wsX5_stepByLog (wsV RX5 178 RX5 yX5_advance wsX5_advance) := goodIn_app (goodIn_of _ (by decide +kernel)) ggX5_stepByLog_X5_advance
theorem dX5_stepByLog_0 : decode cX5_stepByLog 0 = .ok (.aload_n 0, 1) := by decide +kernel
theorem dX5_stepByLog_1 : decode cX5_stepByLog 1 = .ok (.getfield 39, 3) := by decide +kernel
theorem dX5_stepByLog_4 : decode cX5_stepByLog 4 = .ok (.aload_n 0, 1) := by decide +kernel
theorem dX5_stepByLog_5 : decode cX5_stepByLog 5 = .ok (.getfield 78, 3) := by decide +kernel
theorem dX5_stepByLog_8 : decode cX5_stepByLog 8 = .ok (.invokevirtual 103, 3) := by decide +kernel
theorem dX5_stepByLog_11 : decode cX5_stepByLog 11 = .ok (.istore_n 1, 1) := by decide +kernel
theorem dX5_stepByLog_12 : decode cX5_stepByLog 12 = .ok (.iload_n 1, 1) := by decide +kernel
theorem dX5_stepByLog_13 : decode cX5_stepByLog 13 = .ok (.aload_n 0, 1) := by decide +kernel
theorem dX5_stepByLog_14 : decode cX5_stepByLog 14 = .ok (.getfield 39, 3) := by decide +kernel
theorem dX5_stepByLog_17 : decode cX5_stepByLog 17 = .ok (.getfield 68, 3) := by decide +kernel
theorem dX5_stepByLog_20 : decode cX5_stepByLog 20 = .ok (.if_icmp .ge 44, 3) := by decide +kernel
theorem dX5_stepByLog_23 : decode cX5_stepByLog 23 = .ok (.aload_n 0, 1) := by decide +kernel
theorem dX5_stepByLog_24 : decode cX5_stepByLog 24 = .ok (.getfield 39, 3) := by decide +kernel
theorem dX5_stepByLog_27 : decode cX5_stepByLog 27 = .ok (.getfield 124, 3) := by decide +kernel
theorem dX5_stepByLog_30 : decode cX5_stepByLog 30 = .ok (.iload_n 1, 1) := by decide +kernel
theorem dX5_stepByLog_31 : decode cX5_stepByLog 31 = .ok (.iaload, 1) := by decide +kernel
theorem dX5_stepByLog_32 : decode cX5_stepByLog 32 = .ok (.aload_n 0, 1) := by decide +kernel
theorem dX5_stepByLog_33 : decode cX5_stepByLog 33 = .ok (.getfield 78, 3) := by decide +kernel
theorem dX5_stepByLog_36 : decode cX5_stepByLog 36 = .ok (.if_icmp .ne 28, 3) := by decide +kernel
theorem dX5_stepByLog_39 : decode cX5_stepByLog 39 = .ok (.aload_n 0, 1) := by decide +kernel
theorem dX5_stepByLog_40 : decode cX5_stepByLog 40 = .ok (.aload_n 0, 1) := by decide +kernel
theorem dX5_stepByLog_41 : decode cX5_stepByLog 41 = .ok (.getfield 39, 3) := by decide +kernel
theorem dX5_stepByLog_44 : decode cX5_stepByLog 44 = .ok (.getfield 127, 3) := by decide +kernel
theorem dX5_stepByLog_47 : decode cX5_stepByLog 47 = .ok (.iload_n 1, 1) := by decide +kernel
theorem dX5_stepByLog_48 : decode cX5_stepByLog 48 = .ok (.iaload, 1) := by decide +kernel
theorem dX5_stepByLog_49 : decode cX5_stepByLog 49 = .ok (.aload_n 0, 1) := by decide +kernel
theorem dX5_stepByLog_50 : decode cX5_stepByLog 50 = .ok (.getfield 39, 3) := by decide +kernel
theorem dX5_stepByLog_53 : decode cX5_stepByLog 53 = .ok (.getfield 130, 3) := by decide +kernel
theorem dX5_stepByLog_56 : decode cX5_stepByLog 56 = .ok (.iload_n 1, 1) := by decide +kernel
theorem dX5_stepByLog_57 : decode cX5_stepByLog 57 = .ok (.iaload, 1) := by decide +kernel
theorem dX5_stepByLog_58 : decode cX5_stepByLog 58 = .ok (.invokevirtual 178, 3) := by decide +kernel
theorem dX5_stepByLog_61 : decode cX5_stepByLog 61 = .ok (.goto 9, 3) := by decide +kernel
theorem dX5_stepByLog_64 : decode cX5_stepByLog 64 = .ok (.aload_n 0, 1) := by decide +kernel
theorem dX5_stepByLog_65 : decode cX5_stepByLog 65 = .ok (.iconst 0, 1) := by decide +kernel
theorem dX5_stepByLog_66 : decode cX5_stepByLog 66 = .ok (.iconst 0, 1) := by decide +kernel
theorem dX5_stepByLog_67 : decode cX5_stepByLog 67 = .ok (.invokevirtual 178, 3) := by decide +kernel
theorem dX5_stepByLog_70 : decode cX5_stepByLog 70 = .ok (.return_, 1) := by decide +kernel
set_option maxRecDepth 20000 in
theorem ggX5_advance_X2_takeRing : GoodIn wsX5_advance wsX2_takeRing := goodIn_r _ [11, 12, 13, 14, 110, 111, 112, 113, 114, 115, 116, 117] (by decide +kernel) (by decide +kernel)
set_option maxRecDepth 20000 in
theorem gX5_advance_X2_takeRing : GoodIn wsX5_advance (wsV RX5 182 RX2 yX2_takeRing wsX2_takeRing) := goodIn_app (goodIn_of _ (by decide +kernel)) ggX5_advance_X2_takeRing
set_option maxRecDepth 20000 in
theorem ggX5_advance_X2_perform : GoodIn wsX5_advance wsX2_perform := goodIn_r _ [18, 19, 12, 20, 14, 21, 22, 10, 23, 24, 25, 26, 27, 28, 29, 30, 31, 32, 33, 34, 35, 36, 37, 38, 39, 40, 41, 42, 43, 44, 45, 46, 47, 48, 49, 50, 51, 52, 53, 54, 55, 56, 57, 58, 59, 60, 61, 62, 63, 13, 110, 111, 112, 113, 114, 115, 116, 117] (by decide +kernel) (by decide +kernel)
set_option maxRecDepth 20000 in
theorem gX5_advance_X2_perform : GoodIn wsX5_advance (wsV RX5 185 RX2 yX2_perform wsX2_perform) := goodIn_app (goodIn_of _ (by decide +kernel)) ggX5_advance_X2_perform
set_option maxRecDepth 20000 in
theorem ggX5_advance_X4_add : GoodIn wsX5_advance wsX4_add := goodIn_r _ [68, 69, 70, 71, 72, 73, 74, 75, 76, 77, 78, 79, 80, 81, 82, 83, 84, 85, 86, 87, 88, 89, 90, 91, 92, 93, 94, 95, 96, 97, 98, 99, 100, 118, 119, 120, 121, 122, 123, 124, 125, 126, 127, 128, 129, 110, 111, 112, 113, 114, 115, 116, 117] (by decide +kernel) (by decide +kernel)
set_option maxRecDepth 20000 in
theorem gX5_advance_X4_add : GoodIn wsX5_advance (wsV RX5 188 RX4 yX4_add wsX4_add) := goodIn_app (goodIn_of _ (by decide +kernel)) ggX5_advance_X4_add
theorem dX5_advance_0 : decode cX5_advance 0 = .ok (.iload_n 1, 1) := by decide +kernel
theorem dX5_advance_1 : decode cX5_advance 1 = .ok (.iconst 2, 1) := by decide +kernel
theorem dX5_advance_2 : decode cX5_advance 2 = .ok (.if_icmp .ne 13, 3) := by decide +kernel
theorem dX5_advance_5 : decode cX5_advance 5 = .ok (.aload_n 0, 1) := by decide +kernel
theorem dX5_advance_6 : decode cX5_advance 6 = .ok (.getfield 25, 3) := by decide +kernel
theorem dX5_advance_9 : decode cX5_advance 9 = .ok (.invokevirtual 182, 3) := by decide +kernel
theorem dX5_advance_12 : decode cX5_advance 12 = .ok (.goto 15, 3) := by decide +kernel
theorem dX5_advance_15 : decode cX5_advance 15 = .ok (.aload_n 0, 1) := by decide +kernel
theorem dX5_advance_16 : decode cX5_advance 16 = .ok (.getfield 25, 3) := by decide +kernel
theorem dX5_advance_19 : decode cX5_advance 19 = .ok (.aload_n 0, 1) := by decide +kernel
theorem dX5_advance_20 : decode cX5_advance 20 = .ok (.getfield 78, 3) := by decide +kernel
theorem dX5_advance_23 : decode cX5_advance 23 = .ok (.iload_n 2, 1) := by decide +kernel
theorem dX5_advance_24 : decode cX5_advance 24 = .ok (.invokevirtual 185, 3) := by decide +kernel
theorem dX5_advance_27 : decode cX5_advance 27 = .ok (.aload_n 0, 1) := by decide +kernel
theorem dX5_advance_28 : decode cX5_advance 28 = .ok (.dup, 1) := by decide +kernel
theorem dX5_advance_29 : decode cX5_advance 29 = .ok (.getfield 78, 3) := by decide +kernel
theorem dX5_advance_32 : decode cX5_advance 32 = .ok (.iconst 1, 1) := by decide +kernel
theorem dX5_advance_33 : decode cX5_advance 33 = .ok (.iadd, 1) := by decide +kernel
theorem dX5_advance_34 : decode cX5_advance 34 = .ok (.putfield 78, 3) := by decide +kernel
theorem dX5_advance_37 : decode cX5_advance 37 = .ok (.aload_n 0, 1) := by decide +kernel
theorem dX5_advance_38 : decode cX5_advance 38 = .ok (.getfield 78, 3) := by decide +kernel
theorem dX5_advance_41 : decode cX5_advance 41 = .ok (.aload_n 0, 1) := by decide +kernel
theorem dX5_advance_42 : decode cX5_advance 42 = .ok (.getfield 81, 3) := by decide +kernel
theorem dX5_advance_45 : decode cX5_advance 45 = .ok (.if_icmp .le 7, 3) := by decide +kernel
theorem dX5_advance_48 : decode cX5_advance 48 = .ok (.iconst 1, 1) := by decide +kernel
theorem dX5_advance_49 : decode cX5_advance 49 = .ok (.goto 4, 3) := by decide +kernel
theorem dX5_advance_52 : decode cX5_advance 52 = .ok (.iconst 0, 1) := by decide +kernel
theorem dX5_advance_53 : decode cX5_advance 53 = .ok (.istore_n 3, 1) := by decide +kernel
theorem dX5_advance_54 : decode cX5_advance 54 = .ok (.iload_n 3, 1) := by decide +kernel
theorem dX5_advance_55 : decode cX5_advance 55 = .ok (.ifCond .eq 11, 3) := by decide +kernel
theorem dX5_advance_58 : decode cX5_advance 58 = .ok (.aload_n 0, 1) := by decide +kernel
theorem dX5_advance_59 : decode cX5_advance 59 = .ok (.aload_n 0, 1) := by decide +kernel
theorem dX5_advance_60 : decode cX5_advance 60 = .ok (.getfield 78, 3) := by decide +kernel
theorem dX5_advance_63 : decode cX5_advance 63 = .ok (.putfield 81, 3) := by decide +kernel
theorem dX5_advance_66 : decode cX5_advance 66 = .ok (.aload_n 0, 1) := by decide +kernel
theorem dX5_advance_67 : decode cX5_advance 67 = .ok (.getfield 78, 3) := by decide +kernel
theorem dX5_advance_70 : decode cX5_advance 70 = .ok (.aload_n 0, 1) := by decide +kernel
theorem dX5_advance_71 : decode cX5_advance 71 = .ok (.getfield 18, 3) := by decide +kernel
theorem dX5_advance_74 : decode cX5_advance 74 = .ok (.irem, 1) := by decide +kernel
theorem dX5_advance_75 : decode cX5_advance 75 = .ok (.ifCond .ne 26, 3) := by decide +kernel
theorem dX5_advance_78 : decode cX5_advance 78 = .ok (.iload_n 3, 1) := by decide +kernel
theorem dX5_advance_79 : decode cX5_advance 79 = .ok (.ifCond .eq 14, 3) := by decide +kernel
theorem dX5_advance_82 : decode cX5_advance 82 = .ok (.aload_n 0, 1) := by decide +kernel
theorem dX5_advance_83 : decode cX5_advance 83 = .ok (.getfield 46, 3) := by decide +kernel
theorem dX5_advance_86 : decode cX5_advance 86 = .ok (.aload_n 0, 1) := by decide +kernel
theorem dX5_advance_87 : decode cX5_advance 87 = .ok (.getfield 25, 3) := by decide +kernel
theorem dX5_advance_90 : decode cX5_advance 90 = .ok (.invokevirtual 188, 3) := by decide +kernel
theorem dX5_advance_93 : decode cX5_advance 93 = .ok (.aload_n 0, 1) := by decide +kernel
theorem dX5_advance_94 : decode cX5_advance 94 = .ok (.getfield 25, 3) := by decide +kernel
theorem dX5_advance_97 : decode cX5_advance 97 = .ok (.iconst 0, 1) := by decide +kernel
theorem dX5_advance_98 : decode cX5_advance 98 = .ok (.putfield 163, 3) := by decide +kernel
theorem dX5_advance_101 : decode cX5_advance 101 = .ok (.return_, 1) := by decide +kernel
end
section
theorem dX6_init_0 : decode cX6_init 0 = .ok (.aload_n 0, 1) := by decide +kernel
theorem dX6_init_1 : decode cX6_init 1 = .ok (.invokespecial 1, 3) := by decide +kernel
theorem dX6_init_4 : decode cX6_init 4 = .ok (.aload_n 0, 1) := by decide +kernel
theorem dX6_init_5 : decode cX6_init 5 = .ok (.sipush 512, 3) := by decide +kernel
theorem dX6_init_8 : decode cX6_init 8 = .ok (.newarray .int, 2) := by decide +kernel
theorem dX6_init_10 : decode cX6_init 10 = .ok (.putfield 7, 3) := by decide +kernel
theorem dX6_init_13 : decode cX6_init 13 = .ok (.aload_n 0, 1) := by decide +kernel
theorem dX6_init_14 : decode cX6_init 14 = .ok (.sipush 512, 3) := by decide +kernel
theorem dX6_init_17 : decode cX6_init 17 = .ok (.newarray .int, 2) := by decide +kernel
theorem dX6_init_19 : decode cX6_init 19 = .ok (.putfield 13, 3) := by decide +kernel
theorem dX6_init_22 : decode cX6_init 22 = .ok (.aload_n 0, 1) := by decide +kernel
theorem dX6_init_23 : decode cX6_init 23 = .ok (.bipush 8, 2) := by decide +kernel
theorem dX6_init_25 : decode cX6_init 25 = .ok (.newarray .int, 2) := by decide +kernel
theorem dX6_init_27 : decode cX6_init 27 = .ok (.putfield 16, 3) := by decide +kernel
theorem dX6_init_30 : decode cX6_init 30 = .ok (.aload_n 0, 1) := by decide +kernel
theorem dX6_init_31 : decode cX6_init 31 = .ok (.bipush 64, 2) := by decide +kernel
theorem dX6_init_33 : decode cX6_init 33 = .ok (.newarray .int, 2) := by decide +kernel
theorem dX6_init_35 : decode cX6_init 35 = .ok (.putfield 19, 3) := by decide +kernel
theorem dX6_init_38 : decode cX6_init 38 = .ok (.aload_n 0, 1) := by decide +kernel
theorem dX6_init_39 : decode cX6_init 39 = .ok (.sipush 300, 3) := by decide +kernel
theorem dX6_init_42 : decode cX6_init 42 = .ok (.newarray .int, 2) := by decide +kernel
theorem dX6_init_44 : decode cX6_init 44 = .ok (.putfield 22, 3) := by decide +kernel
theorem dX6_init_47 : decode cX6_init 47 = .ok (.aload_n 0, 1) := by decide +kernel
theorem dX6_init_48 : decode cX6_init 48 = .ok (.sipush 300, 3) := by decide +kernel
theorem dX6_init_51 : decode cX6_init 51 = .ok (.newarray .int, 2) := by decide +kernel
theorem dX6_init_53 : decode cX6_init 53 = .ok (.putfield 25, 3) := by decide +kernel
theorem dX6_init_56 : decode cX6_init 56 = .ok (.aload_n 0, 1) := by decide +kernel
theorem dX6_init_57 : decode cX6_init 57 = .ok (.sipush 300, 3) := by decide +kernel
theorem dX6_init_60 : decode cX6_init 60 = .ok (.newarray .int, 2) := by decide +kernel
theorem dX6_init_62 : decode cX6_init 62 = .ok (.putfield 28, 3) := by decide +kernel
theorem dX6_init_65 : decode cX6_init 65 = .ok (.aload_n 0, 1) := by decide +kernel
theorem dX6_init_66 : decode cX6_init 66 = .ok (.bipush 40, 2) := by decide +kernel
theorem dX6_init_68 : decode cX6_init 68 = .ok (.newarray .int, 2) := by decide +kernel
theorem dX6_init_70 : decode cX6_init 70 = .ok (.putfield 31, 3) := by decide +kernel
theorem dX6_init_73 : decode cX6_init 73 = .ok (.aload_n 0, 1) := by decide +kernel
theorem dX6_init_74 : decode cX6_init 74 = .ok (.bipush 32, 2) := by decide +kernel
theorem dX6_init_76 : decode cX6_init 76 = .ok (.newarray .boolean, 2) := by decide +kernel
theorem dX6_init_78 : decode cX6_init 78 = .ok (.putfield 34, 3) := by decide +kernel
theorem dX6_init_81 : decode cX6_init 81 = .ok (.aload_n 0, 1) := by decide +kernel
theorem dX6_init_82 : decode cX6_init 82 = .ok (.bipush 100, 2) := by decide +kernel
theorem dX6_init_84 : decode cX6_init 84 = .ok (.newarray .int, 2) := by decide +kernel
theorem dX6_init_86 : decode cX6_init 86 = .ok (.putfield 38, 3) := by decide +kernel
theorem dX6_init_89 : decode cX6_init 89 = .ok (.aload_n 0, 1) := by decide +kernel
theorem dX6_init_90 : decode cX6_init 90 = .ok (.iload_n 1, 1) := by decide +kernel
theorem dX6_init_91 : decode cX6_init 91 = .ok (.iconst 2, 1) := by decide +kernel
theorem dX6_init_92 : decode cX6_init 92 = .ok (.if_icmp .ge 7, 3) := by decide +kernel
theorem dX6_init_95 : decode cX6_init 95 = .ok (.iconst 2, 1) := by decide +kernel
theorem dX6_init_96 : decode cX6_init 96 = .ok (.goto 15, 3) := by decide +kernel
theorem dX6_init_99 : decode cX6_init 99 = .ok (.iload_n 1, 1) := by decide +kernel
theorem dX6_init_100 : decode cX6_init 100 = .ok (.bipush 64, 2) := by decide +kernel
theorem dX6_init_102 : decode cX6_init 102 = .ok (.if_icmp .le 8, 3) := by decide +kernel
theorem dX6_init_105 : decode cX6_init 105 = .ok (.bipush 64, 2) := by decide +kernel
theorem dX6_init_107 : decode cX6_init 107 = .ok (.goto 4, 3) := by decide +kernel
theorem dX6_init_110 : decode cX6_init 110 = .ok (.iload_n 1, 1) := by decide +kernel
theorem dX6_init_111 : decode cX6_init 111 = .ok (.putfield 41, 3) := by decide +kernel
theorem dX6_init_114 : decode cX6_init 114 = .ok (.return_, 1) := by decide +kernel
theorem dX6_isPlace_0 : decode cX6_isPlace 0 = .ok (.iload_n 0, 1) := by decide +kernel
theorem dX6_isPlace_1 : decode cX6_isPlace 1 = .ok (.ifCond .lt 14, 3) := by decide +kernel
theorem dX6_isPlace_4 : decode cX6_isPlace 4 = .ok (.iload_n 0, 1) := by decide +kernel
theorem dX6_isPlace_5 : decode cX6_isPlace 5 = .ok (.sipush 512, 3) := by decide +kernel
theorem dX6_isPlace_8 : decode cX6_isPlace 8 = .ok (.if_icmp .ge 7, 3) := by decide +kernel
theorem dX6_isPlace_11 : decode cX6_isPlace 11 = .ok (.iconst 1, 1) := by decide +kernel
theorem dX6_isPlace_12 : decode cX6_isPlace 12 = .ok (.goto 4, 3) := by decide +kernel
theorem dX6_isPlace_15 : decode cX6_isPlace 15 = .ok (.iconst 0, 1) := by decide +kernel
theorem dX6_isPlace_16 : decode cX6_isPlace 16 = .ok (.ireturn, 1) := by decide +kernel
set_option maxRecDepth 20000 in
theorem ggX6_poke_X6_isPlace : GoodIn wsX6_poke wsX6_isPlace := goodIn_r _ [6] (by decide +kernel) (by decide +kernel)
set_option maxRecDepth 20000 in
theorem gX6_poke_X6_isPlace : GoodIn wsX6_poke (va_wsS RX6 49 yX6_isPlace wsX6_isPlace) := goodIn_app (goodIn_of _ (by decide +kernel)) ggX6_poke_X6_isPlace
theorem dX6_poke_0 : decode cX6_poke 0 = .ok (.aload_n 0, 1) := by decide +kernel
theorem dX6_poke_1 : decode cX6_poke 1 = .ok (.getfield 45, 3) := by decide +kernel
theorem dX6_poke_4 : decode cX6_poke 4 = .ok (.ifCond .ne 10, 3) := by decide +kernel
theorem dX6_poke_7 : decode cX6_poke 7 = .ok (.iload_n 1, 1) := by decide +kernel
theorem dX6_poke_8 : decode cX6_poke 8 = .ok (.invokestatic 49, 3) := by decide +kernel
theorem dX6_poke_11 : decode cX6_poke 11 = .ok (.ifCond .ne 5, 3) := by decide +kernel
theorem dX6_poke_14 : decode cX6_poke 14 = .ok (.iconst 0, 1) := by decide +kernel
theorem dX6_poke_15 : decode cX6_poke 15 = .ok (.ireturn, 1) := by decide +kernel
theorem dX6_poke_16 : decode cX6_poke 16 = .ok (.aload_n 0, 1) := by decide +kernel
theorem dX6_poke_17 : decode cX6_poke 17 = .ok (.getfield 13, 3) := by decide +kernel
theorem dX6_poke_20 : decode cX6_poke 20 = .ok (.iload_n 1, 1) := by decide +kernel
theorem dX6_poke_21 : decode cX6_poke 21 = .ok (.iload_n 2, 1) := by decide +kernel
theorem dX6_poke_22 : decode cX6_poke 22 = .ok (.iastore, 1) := by decide +kernel
theorem dX6_poke_23 : decode cX6_poke 23 = .ok (.iconst 1, 1) := by decide +kernel
theorem dX6_poke_24 : decode cX6_poke 24 = .ok (.ireturn, 1) := by decide +kernel
theorem dX6_rewind_0 : decode cX6_rewind 0 = .ok (.iconst 0, 1) := by decide +kernel
theorem dX6_rewind_1 : decode cX6_rewind 1 = .ok (.istore_n 1, 1) := by decide +kernel
theorem dX6_rewind_2 : decode cX6_rewind 2 = .ok (.iload_n 1, 1) := by decide +kernel
theorem dX6_rewind_3 : decode cX6_rewind 3 = .ok (.sipush 512, 3) := by decide +kernel
theorem dX6_rewind_6 : decode cX6_rewind 6 = .ok (.if_icmp .ge 21, 3) := by decide +kernel
theorem dX6_rewind_9 : decode cX6_rewind 9 = .ok (.aload_n 0, 1) := by decide +kernel
theorem dX6_rewind_10 : decode cX6_rewind 10 = .ok (.getfield 13, 3) := by decide +kernel
theorem dX6_rewind_13 : decode cX6_rewind 13 = .ok (.iload_n 1, 1) := by decide +kernel
theorem dX6_rewind_14 : decode cX6_rewind 14 = .ok (.aload_n 0, 1) := by decide +kernel
theorem dX6_rewind_15 : decode cX6_rewind 15 = .ok (.getfield 7, 3) := by decide +kernel
theorem dX6_rewind_18 : decode cX6_rewind 18 = .ok (.iload_n 1, 1) := by decide +kernel
theorem dX6_rewind_19 : decode cX6_rewind 19 = .ok (.iaload, 1) := by decide +kernel
theorem dX6_rewind_20 : decode cX6_rewind 20 = .ok (.iastore, 1) := by decide +kernel
theorem dX6_rewind_21 : decode cX6_rewind 21 = .ok (.iinc 1 1, 3) := by decide +kernel
theorem dX6_rewind_24 : decode cX6_rewind 24 = .ok (.goto (-22), 3) := by decide +kernel
theorem dX6_rewind_27 : decode cX6_rewind 27 = .ok (.iconst 0, 1) := by decide +kernel
theorem dX6_rewind_28 : decode cX6_rewind 28 = .ok (.istore_n 1, 1) := by decide +kernel
theorem dX6_rewind_29 : decode cX6_rewind 29 = .ok (.iload_n 1, 1) := by decide +kernel
theorem dX6_rewind_30 : decode cX6_rewind 30 = .ok (.bipush 8, 2) := by decide +kernel
theorem dX6_rewind_32 : decode cX6_rewind 32 = .ok (.if_icmp .ge 16, 3) := by decide +kernel
theorem dX6_rewind_35 : decode cX6_rewind 35 = .ok (.aload_n 0, 1) := by decide +kernel
theorem dX6_rewind_36 : decode cX6_rewind 36 = .ok (.getfield 16, 3) := by decide +kernel
theorem dX6_rewind_39 : decode cX6_rewind 39 = .ok (.iload_n 1, 1) := by decide +kernel
theorem dX6_rewind_40 : decode cX6_rewind 40 = .ok (.iconst 0, 1) := by decide +kernel
theorem dX6_rewind_41 : decode cX6_rewind 41 = .ok (.iastore, 1) := by decide +kernel
theorem dX6_rewind_42 : decode cX6_rewind 42 = .ok (.iinc 1 1, 3) := by decide +kernel
theorem dX6_rewind_45 : decode cX6_rewind 45 = .ok (.goto (-16), 3) := by decide +kernel
theorem dX6_rewind_48 : decode cX6_rewind 48 = .ok (.iconst 0, 1) := by decide +kernel
theorem dX6_rewind_49 : decode cX6_rewind 49 = .ok (.istore_n 1, 1) := by decide +kernel
theorem dX6_rewind_50 : decode cX6_rewind 50 = .ok (.iload_n 1, 1) := by decide +kernel
theorem dX6_rewind_51 : decode cX6_rewind 51 = .ok (.bipush 32, 2) := by decide +kernel
theorem dX6_rewind_53 : decode cX6_rewind 53 = .ok (.if_icmp .ge 16, 3) := by decide +kernel
theorem dX6_rewind_56 : decode cX6_rewind 56 = .ok (.aload_n 0, 1) := by decide +kernel
theorem dX6_rewind_57 : decode cX6_rewind 57 = .ok (.getfield 34, 3) := by decide +kernel
theorem dX6_rewind_60 : decode cX6_rewind 60 = .ok (.iload_n 1, 1) := by decide +kernel
theorem dX6_rewind_61 : decode cX6_rewind 61 = .ok (.iconst 0, 1) := by decide +kernel
theorem dX6_rewind_62 : decode cX6_rewind 62 = .ok (.bastore, 1) := by decide +kernel
theorem dX6_rewind_63 : decode cX6_rewind 63 = .ok (.iinc 1 1, 3) := by decide +kernel
theorem dX6_rewind_66 : decode cX6_rewind 66 = .ok (.goto (-16), 3) := by decide +kernel
theorem dX6_rewind_69 : decode cX6_rewind 69 = .ok (.aload_n 0, 1) := by decide +kernel
theorem dX6_rewind_70 : decode cX6_rewind 70 = .ok (.iconst 0, 1) := by decide +kernel
theorem dX6_rewind_71 : decode cX6_rewind 71 = .ok (.putfield 53, 3) := by decide +kernel
theorem dX6_rewind_74 : decode cX6_rewind 74 = .ok (.aload_n 0, 1) := by decide +kernel
theorem dX6_rewind_75 : decode cX6_rewind 75 = .ok (.iconst 0, 1) := by decide +kernel
theorem dX6_rewind_76 : decode cX6_rewind 76 = .ok (.putfield 56, 3) := by decide +kernel
theorem dX6_rewind_79 : decode cX6_rewind 79 = .ok (.aload_n 0, 1) := by decide +kernel
theorem dX6_rewind_80 : decode cX6_rewind 80 = .ok (.iconst 0, 1) := by decide +kernel
theorem dX6_rewind_81 : decode cX6_rewind 81 = .ok (.putfield 59, 3) := by decide +kernel
theorem dX6_rewind_84 : decode cX6_rewind 84 = .ok (.aload_n 0, 1) := by decide +kernel
theorem dX6_rewind_85 : decode cX6_rewind 85 = .ok (.iconst 0, 1) := by decide +kernel
theorem dX6_rewind_86 : decode cX6_rewind 86 = .ok (.putfield 62, 3) := by decide +kernel
theorem dX6_rewind_89 : decode cX6_rewind 89 = .ok (.aload_n 0, 1) := by decide +kernel
theorem dX6_rewind_90 : decode cX6_rewind 90 = .ok (.iconst 0, 1) := by decide +kernel
theorem dX6_rewind_91 : decode cX6_rewind 91 = .ok (.putfield 65, 3) := by decide +kernel
theorem dX6_rewind_94 : decode cX6_rewind 94 = .ok (.aload_n 0, 1) := by decide +kernel
theorem dX6_rewind_95 : decode cX6_rewind 95 = .ok (.iconst 0, 1) := by decide +kernel
theorem dX6_rewind_96 : decode cX6_rewind 96 = .ok (.putfield 68, 3) := by decide +kernel
theorem dX6_rewind_99 : decode cX6_rewind 99 = .ok (.return_, 1) := by decide +kernel
set_option maxRecDepth 20000 in
theorem ggX6_start_X6_rewind : GoodIn wsX6_start wsX6_rewind := goodIn_r _ [14, 2, 1, 15, 16, 17, 18, 19, 20, 21, 22, 23, 24, 25, 26, 27, 28, 29, 30, 31, 32, 33, 34, 35, 36, 37, 38, 39, 40, 41, 42, 43, 44, 45] (by decide +kernel) (by decide +kernel)
set_option maxRecDepth 20000 in
theorem gX6_start_X6_rewind : GoodIn wsX6_start (wsV RX6 86 RX6 yX6_rewind wsX6_rewind) := goodIn_app (goodIn_of _ (by decide +kernel)) ggX6_start_X6_rewind
theorem dX6_start_0 : decode cX6_start 0 = .ok (.iconst 0, 1) := by decide +kernel
theorem dX6_start_1 : decode cX6_start 1 = .ok (.istore_n 1, 1) := by decide +kernel
theorem dX6_start_2 : decode cX6_start 2 = .ok (.iload_n 1, 1) := by decide +kernel
theorem dX6_start_3 : decode cX6_start 3 = .ok (.sipush 512, 3) := by decide +kernel
theorem dX6_start_6 : decode cX6_start 6 = .ok (.if_icmp .ge 21, 3) := by decide +kernel
theorem dX6_start_9 : decode cX6_start 9 = .ok (.aload_n 0, 1) := by decide +kernel
theorem dX6_start_10 : decode cX6_start 10 = .ok (.getfield 7, 3) := by decide +kernel
theorem dX6_start_13 : decode cX6_start 13 = .ok (.iload_n 1, 1) := by decide +kernel
theorem dX6_start_14 : decode cX6_start 14 = .ok (.aload_n 0, 1) := by decide +kernel
theorem dX6_start_15 : decode cX6_start 15 = .ok (.getfield 13, 3) := by decide +kernel
theorem dX6_start_18 : decode cX6_start 18 = .ok (.iload_n 1, 1) := by decide +kernel
theorem dX6_start_19 : decode cX6_start 19 = .ok (.iaload, 1) := by decide +kernel
theorem dX6_start_20 : decode cX6_start 20 = .ok (.iastore, 1) := by decide +kernel
theorem dX6_start_21 : decode cX6_start 21 = .ok (.iinc 1 1, 3) := by decide +kernel
theorem dX6_start_24 : decode cX6_start 24 = .ok (.goto (-22), 3) := by decide +kernel
theorem dX6_start_27 : decode cX6_start 27 = .ok (.aload_n 0, 1) := by decide +kernel
theorem dX6_start_28 : decode cX6_start 28 = .ok (.iconst 1, 1) := by decide +kernel
theorem dX6_start_29 : decode cX6_start 29 = .ok (.putfield 45, 3) := by decide +kernel
theorem dX6_start_32 : decode cX6_start 32 = .ok (.aload_n 0, 1) := by decide +kernel
theorem dX6_start_33 : decode cX6_start 33 = .ok (.iconst 0, 1) := by decide +kernel
theorem dX6_start_34 : decode cX6_start 34 = .ok (.putfield 71, 3) := by decide +kernel
theorem dX6_start_37 : decode cX6_start 37 = .ok (.aload_n 0, 1) := by decide +kernel
theorem dX6_start_38 : decode cX6_start 38 = .ok (.iconst 0, 1) := by decide +kernel
theorem dX6_start_39 : decode cX6_start 39 = .ok (.putfield 74, 3) := by decide +kernel
theorem dX6_start_42 : decode cX6_start 42 = .ok (.aload_n 0, 1) := by decide +kernel
theorem dX6_start_43 : decode cX6_start 43 = .ok (.iconst 1, 1) := by decide +kernel
theorem dX6_start_44 : decode cX6_start 44 = .ok (.putfield 77, 3) := by decide +kernel
theorem dX6_start_47 : decode cX6_start 47 = .ok (.aload_n 0, 1) := by decide +kernel
theorem dX6_start_48 : decode cX6_start 48 = .ok (.getfield 31, 3) := by decide +kernel
theorem dX6_start_51 : decode cX6_start 51 = .ok (.iconst 0, 1) := by decide +kernel
theorem dX6_start_52 : decode cX6_start 52 = .ok (.iconst 0, 1) := by decide +kernel
theorem dX6_start_53 : decode cX6_start 53 = .ok (.iastore, 1) := by decide +kernel
theorem dX6_start_54 : decode cX6_start 54 = .ok (.aload_n 0, 1) := by decide +kernel
theorem dX6_start_55 : decode cX6_start 55 = .ok (.iconst 0, 1) := by decide +kernel
theorem dX6_start_56 : decode cX6_start 56 = .ok (.putfield 80, 3) := by decide +kernel
theorem dX6_start_59 : decode cX6_start 59 = .ok (.aload_n 0, 1) := by decide +kernel
theorem dX6_start_60 : decode cX6_start 60 = .ok (.iconst 0, 1) := by decide +kernel
theorem dX6_start_61 : decode cX6_start 61 = .ok (.putfield 83, 3) := by decide +kernel
theorem dX6_start_64 : decode cX6_start 64 = .ok (.aload_n 0, 1) := by decide +kernel
theorem dX6_start_65 : decode cX6_start 65 = .ok (.invokevirtual 86, 3) := by decide +kernel
theorem dX6_start_68 : decode cX6_start 68 = .ok (.return_, 1) := by decide +kernel
theorem dX6_stop_0 : decode cX6_stop 0 = .ok (.aload_n 0, 1) := by decide +kernel
theorem dX6_stop_1 : decode cX6_stop 1 = .ok (.iconst 0, 1) := by decide +kernel
theorem dX6_stop_2 : decode cX6_stop 2 = .ok (.putfield 45, 3) := by decide +kernel
theorem dX6_stop_5 : decode cX6_stop 5 = .ok (.return_, 1) := by decide +kernel
theorem dX6_give_0 : decode cX6_give 0 = .ok (.aload_n 0, 1) := by decide +kernel
theorem dX6_give_1 : decode cX6_give 1 = .ok (.getfield 45, 3) := by decide +kernel
theorem dX6_give_4 : decode cX6_give 4 = .ok (.ifCond .eq 12, 3) := by decide +kernel
theorem dX6_give_7 : decode cX6_give 7 = .ok (.aload_n 0, 1) := by decide +kernel
theorem dX6_give_8 : decode cX6_give 8 = .ok (.getfield 80, 3) := by decide +kernel
theorem dX6_give_11 : decode cX6_give 11 = .ok (.bipush 100, 2) := by decide +kernel
theorem dX6_give_13 : decode cX6_give 13 = .ok (.if_icmp .ne 5, 3) := by decide +kernel
theorem dX6_give_16 : decode cX6_give 16 = .ok (.iconst (-1), 1) := by decide +kernel
theorem dX6_give_17 : decode cX6_give 17 = .ok (.ireturn, 1) := by decide +kernel
theorem dX6_give_18 : decode cX6_give 18 = .ok (.aload_n 0, 1) := by decide +kernel
theorem dX6_give_19 : decode cX6_give 19 = .ok (.getfield 38, 3) := by decide +kernel
theorem dX6_give_22 : decode cX6_give 22 = .ok (.aload_n 0, 1) := by decide +kernel
theorem dX6_give_23 : decode cX6_give 23 = .ok (.getfield 80, 3) := by decide +kernel
theorem dX6_give_26 : decode cX6_give 26 = .ok (.iload_n 1, 1) := by decide +kernel
theorem dX6_give_27 : decode cX6_give 27 = .ok (.iastore, 1) := by decide +kernel
theorem dX6_give_28 : decode cX6_give 28 = .ok (.aload_n 0, 1) := by decide +kernel
theorem dX6_give_29 : decode cX6_give 29 = .ok (.dup, 1) := by decide +kernel
theorem dX6_give_30 : decode cX6_give 30 = .ok (.getfield 80, 3) := by decide +kernel
theorem dX6_give_33 : decode cX6_give 33 = .ok (.iconst 1, 1) := by decide +kernel
theorem dX6_give_34 : decode cX6_give 34 = .ok (.iadd, 1) := by decide +kernel
theorem dX6_give_35 : decode cX6_give 35 = .ok (.putfield 80, 3) := by decide +kernel
theorem dX6_give_38 : decode cX6_give 38 = .ok (.aload_n 0, 1) := by decide +kernel
theorem dX6_give_39 : decode cX6_give 39 = .ok (.getfield 80, 3) := by decide +kernel
theorem dX6_give_42 : decode cX6_give 42 = .ok (.ireturn, 1) := by decide +kernel
theorem dX6_ring_0 : decode cX6_ring 0 = .ok (.aload_n 0, 1) := by decide +kernel
theorem dX6_ring_1 : decode cX6_ring 1 = .ok (.getfield 45, 3) := by decide +kernel
theorem dX6_ring_4 : decode cX6_ring 4 = .ok (.ifCond .eq 8, 3) := by decide +kernel
theorem dX6_ring_7 : decode cX6_ring 7 = .ok (.aload_n 0, 1) := by decide +kernel
theorem dX6_ring_8 : decode cX6_ring 8 = .ok (.iconst 1, 1) := by decide +kernel
theorem dX6_ring_9 : decode cX6_ring 9 = .ok (.putfield 83, 3) := by decide +kernel
theorem dX6_ring_12 : decode cX6_ring 12 = .ok (.aload_n 0, 1) := by decide +kernel
theorem dX6_ring_13 : decode cX6_ring 13 = .ok (.getfield 45, 3) := by decide +kernel
theorem dX6_ring_16 : decode cX6_ring 16 = .ok (.ireturn, 1) := by decide +kernel
theorem dX6_meant_0 : decode cX6_meant 0 = .ok (.aload_n 0, 1) := by decide +kernel
theorem dX6_meant_1 : decode cX6_meant 1 = .ok (.getfield 16, 3) := by decide +kernel
theorem dX6_meant_4 : decode cX6_meant 4 = .ok (.iload_n 1, 1) := by decide +kernel
theorem dX6_meant_5 : decode cX6_meant 5 = .ok (.bipush 8, 2) := by decide +kernel
theorem dX6_meant_7 : decode cX6_meant 7 = .ok (.ishr, 1) := by decide +kernel
theorem dX6_meant_8 : decode cX6_meant 8 = .ok (.bipush 7, 2) := by decide +kernel
theorem dX6_meant_10 : decode cX6_meant 10 = .ok (.iand, 1) := by decide +kernel
theorem dX6_meant_11 : decode cX6_meant 11 = .ok (.iaload, 1) := by decide +kernel
theorem dX6_meant_12 : decode cX6_meant 12 = .ok (.iload_n 1, 1) := by decide +kernel
theorem dX6_meant_13 : decode cX6_meant 13 = .ok (.i2b, 1) := by decide +kernel
theorem dX6_meant_14 : decode cX6_meant 14 = .ok (.iadd, 1) := by decide +kernel
theorem dX6_meant_15 : decode cX6_meant 15 = .ok (.sipush 511, 3) := by decide +kernel
theorem dX6_meant_18 : decode cX6_meant 18 = .ok (.iand, 1) := by decide +kernel
theorem dX6_meant_19 : decode cX6_meant 19 = .ok (.ireturn, 1) := by decide +kernel
theorem dX6_interrupt_0 : decode cX6_interrupt 0 = .ok (.aload_n 0, 1) := by decide +kernel
theorem dX6_interrupt_1 : decode cX6_interrupt 1 = .ok (.aload_n 0, 1) := by decide +kernel
theorem dX6_interrupt_2 : decode cX6_interrupt 2 = .ok (.getfield 53, 3) := by decide +kernel
theorem dX6_interrupt_5 : decode cX6_interrupt 5 = .ok (.putfield 56, 3) := by decide +kernel
theorem dX6_interrupt_8 : decode cX6_interrupt 8 = .ok (.aload_n 0, 1) := by decide +kernel
theorem dX6_interrupt_9 : decode cX6_interrupt 9 = .ok (.bipush 8, 2) := by decide +kernel
theorem dX6_interrupt_11 : decode cX6_interrupt 11 = .ok (.putfield 53, 3) := by decide +kernel
theorem dX6_interrupt_14 : decode cX6_interrupt 14 = .ok (.aload_n 0, 1) := by decide +kernel
theorem dX6_interrupt_15 : decode cX6_interrupt 15 = .ok (.iconst 0, 1) := by decide +kernel
theorem dX6_interrupt_16 : decode cX6_interrupt 16 = .ok (.putfield 59, 3) := by decide +kernel
theorem dX6_interrupt_19 : decode cX6_interrupt 19 = .ok (.return_, 1) := by decide +kernel
theorem dX6_send_0 : decode cX6_send 0 = .ok (.aload_n 0, 1) := by decide +kernel
theorem dX6_send_1 : decode cX6_send 1 = .ok (.getfield 62, 3) := by decide +kernel
theorem dX6_send_4 : decode cX6_send 4 = .ok (.bipush 64, 2) := by decide +kernel
theorem dX6_send_6 : decode cX6_send 6 = .ok (.if_icmp .ge 13, 3) := by decide +kernel
theorem dX6_send_9 : decode cX6_send 9 = .ok (.aload_n 0, 1) := by decide +kernel
theorem dX6_send_10 : decode cX6_send 10 = .ok (.getfield 19, 3) := by decide +kernel
theorem dX6_send_13 : decode cX6_send 13 = .ok (.aload_n 0, 1) := by decide +kernel
theorem dX6_send_14 : decode cX6_send 14 = .ok (.getfield 62, 3) := by decide +kernel
theorem dX6_send_17 : decode cX6_send 17 = .ok (.iload_n 1, 1) := by decide +kernel
theorem dX6_send_18 : decode cX6_send 18 = .ok (.iastore, 1) := by decide +kernel
theorem dX6_send_19 : decode cX6_send 19 = .ok (.aload_n 0, 1) := by decide +kernel
theorem dX6_send_20 : decode cX6_send 20 = .ok (.dup, 1) := by decide +kernel
theorem dX6_send_21 : decode cX6_send 21 = .ok (.getfield 62, 3) := by decide +kernel
theorem dX6_send_24 : decode cX6_send 24 = .ok (.iconst 1, 1) := by decide +kernel
theorem dX6_send_25 : decode cX6_send 25 = .ok (.iadd, 1) := by decide +kernel
theorem dX6_send_26 : decode cX6_send 26 = .ok (.putfield 62, 3) := by decide +kernel
theorem dX6_send_29 : decode cX6_send 29 = .ok (.return_, 1) := by decide +kernel
theorem dX6_write_0 : decode cX6_write 0 = .ok (.aload_n 0, 1) := by decide +kernel
theorem dX6_write_1 : decode cX6_write 1 = .ok (.getfield 13, 3) := by decide +kernel
theorem dX6_write_4 : decode cX6_write 4 = .ok (.iload_n 1, 1) := by decide +kernel
theorem dX6_write_5 : decode cX6_write 5 = .ok (.iload_n 2, 1) := by decide +kernel
theorem dX6_write_6 : decode cX6_write 6 = .ok (.iastore, 1) := by decide +kernel
theorem dX6_write_7 : decode cX6_write 7 = .ok (.aload_n 0, 1) := by decide +kernel
theorem dX6_write_8 : decode cX6_write 8 = .ok (.getfield 34, 3) := by decide +kernel
theorem dX6_write_11 : decode cX6_write 11 = .ok (.iload_n 1, 1) := by decide +kernel
theorem dX6_write_12 : decode cX6_write 12 = .ok (.bipush 16, 2) := by decide +kernel
theorem dX6_write_14 : decode cX6_write 14 = .ok (.idiv, 1) := by decide +kernel
theorem dX6_write_15 : decode cX6_write 15 = .ok (.iconst 1, 1) := by decide +kernel
theorem dX6_write_16 : decode cX6_write 16 = .ok (.bastore, 1) := by decide +kernel
theorem dX6_write_17 : decode cX6_write 17 = .ok (.return_, 1) := by decide +kernel
set_option maxRecDepth 20000 in
theorem ggX6_work_X6_meant : GoodIn wsX6_work wsX6_meant := goodIn_r _ [8, 1, 20, 21, 22, 23, 24, 25, 26, 27, 28, 29, 30, 31, 32, 33, 34, 35, 36, 37, 38, 39, 40, 41, 42] (by decide +kernel) (by decide +kernel)
set_option maxRecDepth 20000 in
theorem gX6_work_X6_meant : GoodIn wsX6_work (wsV RX6 89 RX6 yX6_meant wsX6_meant) := goodIn_app (goodIn_of _ (by decide +kernel)) ggX6_work_X6_meant
set_option maxRecDepth 20000 in
theorem ggX6_work_X6_write : GoodIn wsX6_work wsX6_write := goodIn_r _ [12, 2, 13, 20, 21, 22, 23, 24, 25, 26, 27, 28, 29, 30, 31, 32, 33, 34, 35, 36, 37, 38, 39, 40, 41, 42] (by decide +kernel) (by decide +kernel)
set_option maxRecDepth 20000 in
theorem gX6_work_X6_write : GoodIn wsX6_work (wsV RX6 93 RX6 yX6_write wsX6_write) := goodIn_app (goodIn_of _ (by decide +kernel)) ggX6_work_X6_write
set_option maxRecDepth 20000 in
theorem ggX6_work_X6_send : GoodIn wsX6_work wsX6_send := goodIn_r _ [17, 18, 19, 20, 21, 22, 23, 24, 25, 26, 27, 28, 29, 30, 31, 32, 33, 34, 35, 36, 37, 38, 39, 40, 41, 42] (by decide +kernel) (by decide +kernel)
set_option maxRecDepth 20000 in
theorem gX6_work_X6_send : GoodIn wsX6_work (wsV RX6 97 RX6 yX6_send wsX6_send) := goodIn_app (goodIn_of _ (by decide +kernel)) ggX6_work_X6_send
theorem dX6_work_0 : decode cX6_work 0 = .ok (.iload_n 1, 1) := by decide +kernel
theorem dX6_work_1 : decode cX6_work 1 = .ok (.bipush 16, 2) := by decide +kernel
theorem dX6_work_3 : decode cX6_work 3 = .ok (.ishr, 1) := by decide +kernel
theorem dX6_work_4 : decode cX6_work 4 = .ok (.bipush 7, 2) := by decide +kernel
theorem dX6_work_6 : decode cX6_work 6 = .ok (.iand, 1) := by decide +kernel
theorem dX6_work_7 : decode cX6_work 7 = .ok (.istore_n 3, 1) := by decide +kernel
theorem dX6_work_8 : decode cX6_work 8 = .ok (.aload_n 0, 1) := by decide +kernel
theorem dX6_work_9 : decode cX6_work 9 = .ok (.getfield 16, 3) := by decide +kernel
theorem dX6_work_12 : decode cX6_work 12 = .ok (.iload_n 1, 1) := by decide +kernel
theorem dX6_work_13 : decode cX6_work 13 = .ok (.bipush 8, 2) := by decide +kernel
theorem dX6_work_15 : decode cX6_work 15 = .ok (.ishr, 1) := by decide +kernel
theorem dX6_work_16 : decode cX6_work 16 = .ok (.bipush 7, 2) := by decide +kernel
theorem dX6_work_18 : decode cX6_work 18 = .ok (.iand, 1) := by decide +kernel
theorem dX6_work_19 : decode cX6_work 19 = .ok (.iaload, 1) := by decide +kernel
theorem dX6_work_20 : decode cX6_work 20 = .ok (.istore 4, 2) := by decide +kernel
theorem dX6_work_22 : decode cX6_work 22 = .ok (.aload_n 0, 1) := by decide +kernel
theorem dX6_work_23 : decode cX6_work 23 = .ok (.getfield 16, 3) := by decide +kernel
theorem dX6_work_26 : decode cX6_work 26 = .ok (.iload_n 1, 1) := by decide +kernel
theorem dX6_work_27 : decode cX6_work 27 = .ok (.bipush 7, 2) := by decide +kernel
theorem dX6_work_29 : decode cX6_work 29 = .ok (.iand, 1) := by decide +kernel
theorem dX6_work_30 : decode cX6_work 30 = .ok (.iaload, 1) := by decide +kernel
theorem dX6_work_31 : decode cX6_work 31 = .ok (.istore 5, 2) := by decide +kernel
theorem dX6_work_33 : decode cX6_work 33 = .ok (.iload_n 1, 1) := by decide +kernel
theorem dX6_work_34 : decode cX6_work 34 = .ok (.bipush 24, 2) := by decide +kernel
theorem dX6_work_36 : decode cX6_work 36 = .ok (.iushr, 1) := by decide +kernel
theorem dX6_work_37 : decode cX6_work 37 = .ok (.tableswitch 225 1 14 #[71, 85, 99, 113, 127, 141, 152, 171, 225, 225, 225, 189, 199, 212], 71) := by decide +kernel
theorem dX6_work_108 : decode cX6_work 108 = .ok (.aload_n 0, 1) := by decide +kernel
theorem dX6_work_109 : decode cX6_work 109 = .ok (.getfield 16, 3) := by decide +kernel
theorem dX6_work_112 : decode cX6_work 112 = .ok (.iload_n 3, 1) := by decide +kernel
theorem dX6_work_113 : decode cX6_work 113 = .ok (.iload 4, 2) := by decide +kernel
theorem dX6_work_115 : decode cX6_work 115 = .ok (.iload 5, 2) := by decide +kernel
theorem dX6_work_117 : decode cX6_work 117 = .ok (.iadd, 1) := by decide +kernel
theorem dX6_work_118 : decode cX6_work 118 = .ok (.iastore, 1) := by decide +kernel
theorem dX6_work_119 : decode cX6_work 119 = .ok (.goto 143, 3) := by decide +kernel
theorem dX6_work_122 : decode cX6_work 122 = .ok (.aload_n 0, 1) := by decide +kernel
theorem dX6_work_123 : decode cX6_work 123 = .ok (.getfield 16, 3) := by decide +kernel
theorem dX6_work_126 : decode cX6_work 126 = .ok (.iload_n 3, 1) := by decide +kernel
theorem dX6_work_127 : decode cX6_work 127 = .ok (.iload 4, 2) := by decide +kernel
theorem dX6_work_129 : decode cX6_work 129 = .ok (.iload 5, 2) := by decide +kernel
theorem dX6_work_131 : decode cX6_work 131 = .ok (.isub, 1) := by decide +kernel
theorem dX6_work_132 : decode cX6_work 132 = .ok (.iastore, 1) := by decide +kernel
theorem dX6_work_133 : decode cX6_work 133 = .ok (.goto 129, 3) := by decide +kernel
theorem dX6_work_136 : decode cX6_work 136 = .ok (.aload_n 0, 1) := by decide +kernel
theorem dX6_work_137 : decode cX6_work 137 = .ok (.getfield 16, 3) := by decide +kernel
theorem dX6_work_140 : decode cX6_work 140 = .ok (.iload_n 3, 1) := by decide +kernel
theorem dX6_work_141 : decode cX6_work 141 = .ok (.iload 4, 2) := by decide +kernel
theorem dX6_work_143 : decode cX6_work 143 = .ok (.iload 5, 2) := by decide +kernel
theorem dX6_work_145 : decode cX6_work 145 = .ok (.imul, 1) := by decide +kernel
theorem dX6_work_146 : decode cX6_work 146 = .ok (.iastore, 1) := by decide +kernel
theorem dX6_work_147 : decode cX6_work 147 = .ok (.goto 115, 3) := by decide +kernel
theorem dX6_work_150 : decode cX6_work 150 = .ok (.aload_n 0, 1) := by decide +kernel
theorem dX6_work_151 : decode cX6_work 151 = .ok (.getfield 16, 3) := by decide +kernel
theorem dX6_work_154 : decode cX6_work 154 = .ok (.iload_n 3, 1) := by decide +kernel
theorem dX6_work_155 : decode cX6_work 155 = .ok (.iload 4, 2) := by decide +kernel
theorem dX6_work_157 : decode cX6_work 157 = .ok (.iload 5, 2) := by decide +kernel
theorem dX6_work_159 : decode cX6_work 159 = .ok (.iand, 1) := by decide +kernel
theorem dX6_work_160 : decode cX6_work 160 = .ok (.iastore, 1) := by decide +kernel
theorem dX6_work_161 : decode cX6_work 161 = .ok (.goto 101, 3) := by decide +kernel
theorem dX6_work_164 : decode cX6_work 164 = .ok (.aload_n 0, 1) := by decide +kernel
theorem dX6_work_165 : decode cX6_work 165 = .ok (.getfield 16, 3) := by decide +kernel
theorem dX6_work_168 : decode cX6_work 168 = .ok (.iload_n 3, 1) := by decide +kernel
theorem dX6_work_169 : decode cX6_work 169 = .ok (.iload 4, 2) := by decide +kernel
theorem dX6_work_171 : decode cX6_work 171 = .ok (.iload 5, 2) := by decide +kernel
theorem dX6_work_173 : decode cX6_work 173 = .ok (.ixor, 1) := by decide +kernel
theorem dX6_work_174 : decode cX6_work 174 = .ok (.iastore, 1) := by decide +kernel
theorem dX6_work_175 : decode cX6_work 175 = .ok (.goto 87, 3) := by decide +kernel
theorem dX6_work_178 : decode cX6_work 178 = .ok (.aload_n 0, 1) := by decide +kernel
theorem dX6_work_179 : decode cX6_work 179 = .ok (.getfield 16, 3) := by decide +kernel
theorem dX6_work_182 : decode cX6_work 182 = .ok (.iload_n 3, 1) := by decide +kernel
theorem dX6_work_183 : decode cX6_work 183 = .ok (.iload_n 1, 1) := by decide +kernel
theorem dX6_work_184 : decode cX6_work 184 = .ok (.i2s, 1) := by decide +kernel
theorem dX6_work_185 : decode cX6_work 185 = .ok (.iastore, 1) := by decide +kernel
theorem dX6_work_186 : decode cX6_work 186 = .ok (.goto 76, 3) := by decide +kernel
theorem dX6_work_189 : decode cX6_work 189 = .ok (.aload_n 0, 1) := by decide +kernel
theorem dX6_work_190 : decode cX6_work 190 = .ok (.getfield 16, 3) := by decide +kernel
theorem dX6_work_193 : decode cX6_work 193 = .ok (.iload_n 3, 1) := by decide +kernel
theorem dX6_work_194 : decode cX6_work 194 = .ok (.aload_n 0, 1) := by decide +kernel
theorem dX6_work_195 : decode cX6_work 195 = .ok (.getfield 13, 3) := by decide +kernel
theorem dX6_work_198 : decode cX6_work 198 = .ok (.aload_n 0, 1) := by decide +kernel
theorem dX6_work_199 : decode cX6_work 199 = .ok (.iload_n 1, 1) := by decide +kernel
theorem dX6_work_200 : decode cX6_work 200 = .ok (.invokevirtual 89, 3) := by decide +kernel
theorem dX6_work_203 : decode cX6_work 203 = .ok (.iaload, 1) := by decide +kernel
theorem dX6_work_204 : decode cX6_work 204 = .ok (.iastore, 1) := by decide +kernel
theorem dX6_work_205 : decode cX6_work 205 = .ok (.goto 57, 3) := by decide +kernel
theorem dX6_work_208 : decode cX6_work 208 = .ok (.aload_n 0, 1) := by decide +kernel
theorem dX6_work_209 : decode cX6_work 209 = .ok (.aload_n 0, 1) := by decide +kernel
theorem dX6_work_210 : decode cX6_work 210 = .ok (.iload_n 1, 1) := by decide +kernel
theorem dX6_work_211 : decode cX6_work 211 = .ok (.invokevirtual 89, 3) := by decide +kernel
theorem dX6_work_214 : decode cX6_work 214 = .ok (.aload_n 0, 1) := by decide +kernel
theorem dX6_work_215 : decode cX6_work 215 = .ok (.getfield 16, 3) := by decide +kernel
theorem dX6_work_218 : decode cX6_work 218 = .ok (.iload_n 3, 1) := by decide +kernel
theorem dX6_work_219 : decode cX6_work 219 = .ok (.iaload, 1) := by decide +kernel
theorem dX6_work_220 : decode cX6_work 220 = .ok (.invokevirtual 93, 3) := by decide +kernel
theorem dX6_work_223 : decode cX6_work 223 = .ok (.goto 39, 3) := by decide +kernel
theorem dX6_work_226 : decode cX6_work 226 = .ok (.aload_n 0, 1) := by decide +kernel
theorem dX6_work_227 : decode cX6_work 227 = .ok (.getfield 16, 3) := by decide +kernel
theorem dX6_work_230 : decode cX6_work 230 = .ok (.iload_n 3, 1) := by decide +kernel
theorem dX6_work_231 : decode cX6_work 231 = .ok (.iload_n 2, 1) := by decide +kernel
theorem dX6_work_232 : decode cX6_work 232 = .ok (.iastore, 1) := by decide +kernel
theorem dX6_work_233 : decode cX6_work 233 = .ok (.goto 29, 3) := by decide +kernel
theorem dX6_work_236 : decode cX6_work 236 = .ok (.aload_n 0, 1) := by decide +kernel
theorem dX6_work_237 : decode cX6_work 237 = .ok (.aload_n 0, 1) := by decide +kernel
theorem dX6_work_238 : decode cX6_work 238 = .ok (.getfield 16, 3) := by decide +kernel
theorem dX6_work_241 : decode cX6_work 241 = .ok (.iload_n 3, 1) := by decide +kernel
theorem dX6_work_242 : decode cX6_work 242 = .ok (.iaload, 1) := by decide +kernel
theorem dX6_work_243 : decode cX6_work 243 = .ok (.invokevirtual 97, 3) := by decide +kernel
theorem dX6_work_246 : decode cX6_work 246 = .ok (.goto 16, 3) := by decide +kernel
theorem dX6_work_249 : decode cX6_work 249 = .ok (.aload_n 0, 1) := by decide +kernel
theorem dX6_work_250 : decode cX6_work 250 = .ok (.getfield 16, 3) := by decide +kernel
theorem dX6_work_253 : decode cX6_work 253 = .ok (.iload_n 3, 1) := by decide +kernel
theorem dX6_work_254 : decode cX6_work 254 = .ok (.aload_n 0, 1) := by decide +kernel
theorem dX6_work_255 : decode cX6_work 255 = .ok (.getfield 65, 3) := by decide +kernel
theorem dX6_work_258 : decode cX6_work 258 = .ok (.iastore, 1) := by decide +kernel
theorem dX6_work_259 : decode cX6_work 259 = .ok (.goto 3, 3) := by decide +kernel
theorem dX6_work_262 : decode cX6_work 262 = .ok (.return_, 1) := by decide +kernel
end
section
theorem dX6_move_0 : decode cX6_move 0 = .ok (.aload_n 0, 1) := by decide +kernel
theorem dX6_move_1 : decode cX6_move 1 = .ok (.getfield 16, 3) := by decide +kernel
theorem dX6_move_4 : decode cX6_move 4 = .ok (.iload_n 1, 1) := by decide +kernel
theorem dX6_move_5 : decode cX6_move 5 = .ok (.bipush 16, 2) := by decide +kernel
theorem dX6_move_7 : decode cX6_move 7 = .ok (.ishr, 1) := by decide +kernel
theorem dX6_move_8 : decode cX6_move 8 = .ok (.bipush 7, 2) := by decide +kernel
theorem dX6_move_10 : decode cX6_move 10 = .ok (.iand, 1) := by decide +kernel
theorem dX6_move_11 : decode cX6_move 11 = .ok (.iaload, 1) := by decide +kernel
theorem dX6_move_12 : decode cX6_move 12 = .ok (.istore_n 2, 1) := by decide +kernel
theorem dX6_move_13 : decode cX6_move 13 = .ok (.iload_n 1, 1) := by decide +kernel
theorem dX6_move_14 : decode cX6_move 14 = .ok (.bipush 24, 2) := by decide +kernel
theorem dX6_move_16 : decode cX6_move 16 = .ok (.iushr, 1) := by decide +kernel
theorem dX6_move_17 : decode cX6_move 17 = .ok (.istore_n 3, 1) := by decide +kernel
theorem dX6_move_18 : decode cX6_move 18 = .ok (.iload_n 1, 1) := by decide +kernel
theorem dX6_move_19 : decode cX6_move 19 = .ok (.i2s, 1) := by decide +kernel
theorem dX6_move_20 : decode cX6_move 20 = .ok (.istore 4, 2) := by decide +kernel
theorem dX6_move_22 : decode cX6_move 22 = .ok (.aload_n 0, 1) := by decide +kernel
theorem dX6_move_23 : decode cX6_move 23 = .ok (.aload_n 0, 1) := by decide +kernel
theorem dX6_move_24 : decode cX6_move 24 = .ok (.getfield 53, 3) := by decide +kernel
theorem dX6_move_27 : decode cX6_move 27 = .ok (.iconst 1, 1) := by decide +kernel
theorem dX6_move_28 : decode cX6_move 28 = .ok (.iadd, 1) := by decide +kernel
theorem dX6_move_29 : decode cX6_move 29 = .ok (.sipush 511, 3) := by decide +kernel
theorem dX6_move_32 : decode cX6_move 32 = .ok (.iand, 1) := by decide +kernel
theorem dX6_move_33 : decode cX6_move 33 = .ok (.putfield 53, 3) := by decide +kernel
theorem dX6_move_36 : decode cX6_move 36 = .ok (.iload_n 3, 1) := by decide +kernel
theorem dX6_move_37 : decode cX6_move 37 = .ok (.bipush 9, 2) := by decide +kernel
theorem dX6_move_39 : decode cX6_move 39 = .ok (.if_icmp .eq 23, 3) := by decide +kernel
theorem dX6_move_42 : decode cX6_move 42 = .ok (.iload_n 3, 1) := by decide +kernel
theorem dX6_move_43 : decode cX6_move 43 = .ok (.bipush 10, 2) := by decide +kernel
theorem dX6_move_45 : decode cX6_move 45 = .ok (.if_icmp .ne 7, 3) := by decide +kernel
theorem dX6_move_48 : decode cX6_move 48 = .ok (.iload_n 2, 1) := by decide +kernel
theorem dX6_move_49 : decode cX6_move 49 = .ok (.ifCond .eq 13, 3) := by decide +kernel
theorem dX6_move_52 : decode cX6_move 52 = .ok (.iload_n 3, 1) := by decide +kernel
theorem dX6_move_53 : decode cX6_move 53 = .ok (.bipush 11, 2) := by decide +kernel
theorem dX6_move_55 : decode cX6_move 55 = .ok (.if_icmp .ne 11, 3) := by decide +kernel
theorem dX6_move_58 : decode cX6_move 58 = .ok (.iload_n 2, 1) := by decide +kernel
theorem dX6_move_59 : decode cX6_move 59 = .ok (.ifCond .ge 7, 3) := by decide +kernel
theorem dX6_move_62 : decode cX6_move 62 = .ok (.iconst 1, 1) := by decide +kernel
theorem dX6_move_63 : decode cX6_move 63 = .ok (.goto 4, 3) := by decide +kernel
theorem dX6_move_66 : decode cX6_move 66 = .ok (.iconst 0, 1) := by decide +kernel
theorem dX6_move_67 : decode cX6_move 67 = .ok (.istore 5, 2) := by decide +kernel
theorem dX6_move_69 : decode cX6_move 69 = .ok (.iload 5, 2) := by decide +kernel
theorem dX6_move_71 : decode cX6_move 71 = .ok (.ifCond .eq 13, 3) := by decide +kernel
theorem dX6_move_74 : decode cX6_move 74 = .ok (.aload_n 0, 1) := by decide +kernel
theorem dX6_move_75 : decode cX6_move 75 = .ok (.iload 4, 2) := by decide +kernel
theorem dX6_move_77 : decode cX6_move 77 = .ok (.sipush 511, 3) := by decide +kernel
theorem dX6_move_80 : decode cX6_move 80 = .ok (.iand, 1) := by decide +kernel
theorem dX6_move_81 : decode cX6_move 81 = .ok (.putfield 53, 3) := by decide +kernel
theorem dX6_move_84 : decode cX6_move 84 = .ok (.iload_n 3, 1) := by decide +kernel
theorem dX6_move_85 : decode cX6_move 85 = .ok (.bipush 15, 2) := by decide +kernel
theorem dX6_move_87 : decode cX6_move 87 = .ok (.if_icmp .ne 11, 3) := by decide +kernel
theorem dX6_move_90 : decode cX6_move 90 = .ok (.aload_n 0, 1) := by decide +kernel
theorem dX6_move_91 : decode cX6_move 91 = .ok (.aload_n 0, 1) := by decide +kernel
theorem dX6_move_92 : decode cX6_move 92 = .ok (.getfield 56, 3) := by decide +kernel
theorem dX6_move_95 : decode cX6_move 95 = .ok (.putfield 53, 3) := by decide +kernel
theorem dX6_move_98 : decode cX6_move 98 = .ok (.iload_n 3, 1) := by decide +kernel
theorem dX6_move_99 : decode cX6_move 99 = .ok (.bipush 18, 2) := by decide +kernel
theorem dX6_move_101 : decode cX6_move 101 = .ok (.if_icmp .ne 12, 3) := by decide +kernel
theorem dX6_move_104 : decode cX6_move 104 = .ok (.aload_n 0, 1) := by decide +kernel
theorem dX6_move_105 : decode cX6_move 105 = .ok (.iload_n 2, 1) := by decide +kernel
theorem dX6_move_106 : decode cX6_move 106 = .ok (.sipush 511, 3) := by decide +kernel
theorem dX6_move_109 : decode cX6_move 109 = .ok (.iand, 1) := by decide +kernel
theorem dX6_move_110 : decode cX6_move 110 = .ok (.putfield 53, 3) := by decide +kernel
theorem dX6_move_113 : decode cX6_move 113 = .ok (.iload_n 3, 1) := by decide +kernel
theorem dX6_move_114 : decode cX6_move 114 = .ok (.bipush 15, 2) := by decide +kernel
theorem dX6_move_116 : decode cX6_move 116 = .ok (.if_icmp .eq 9, 3) := by decide +kernel
theorem dX6_move_119 : decode cX6_move 119 = .ok (.iload_n 3, 1) := by decide +kernel
theorem dX6_move_120 : decode cX6_move 120 = .ok (.bipush 16, 2) := by decide +kernel
theorem dX6_move_122 : decode cX6_move 122 = .ok (.if_icmp .ne 8, 3) := by decide +kernel
theorem dX6_move_125 : decode cX6_move 125 = .ok (.aload_n 0, 1) := by decide +kernel
theorem dX6_move_126 : decode cX6_move 126 = .ok (.iconst 1, 1) := by decide +kernel
theorem dX6_move_127 : decode cX6_move 127 = .ok (.putfield 59, 3) := by decide +kernel
theorem dX6_move_130 : decode cX6_move 130 = .ok (.iload_n 3, 1) := by decide +kernel
theorem dX6_move_131 : decode cX6_move 131 = .ok (.bipush 17, 2) := by decide +kernel
theorem dX6_move_133 : decode cX6_move 133 = .ok (.if_icmp .ne 8, 3) := by decide +kernel
theorem dX6_move_136 : decode cX6_move 136 = .ok (.aload_n 0, 1) := by decide +kernel
theorem dX6_move_137 : decode cX6_move 137 = .ok (.iconst 0, 1) := by decide +kernel
theorem dX6_move_138 : decode cX6_move 138 = .ok (.putfield 59, 3) := by decide +kernel
theorem dX6_move_141 : decode cX6_move 141 = .ok (.return_, 1) := by decide +kernel
set_option maxRecDepth 20000 in
theorem ggX6_instruct_X6_move : GoodIn wsX6_instruct wsX6_move := goodIn_r _ [5, 6, 7, 8, 9, 31, 32, 33, 34, 35, 36, 37, 38, 39, 40, 41, 42, 43, 44, 45, 46, 47, 48, 49, 50, 51, 52, 53] (by decide +kernel) (by decide +kernel)
set_option maxRecDepth 20000 in
theorem gX6_instruct_X6_move : GoodIn wsX6_instruct (wsV RX6 101 RX6 yX6_move wsX6_move) := goodIn_app (goodIn_of _ (by decide +kernel)) ggX6_instruct_X6_move
set_option maxRecDepth 20000 in
theorem ggX6_instruct_X6_work : GoodIn wsX6_instruct wsX6_work := goodIn_r _ [13, 6, 14, 15, 16, 17, 18, 4, 19, 20, 21, 22, 23, 24, 25, 26, 27, 28, 29, 30, 31, 32, 33, 34, 35, 36, 37, 38, 39, 40, 41, 42, 43, 44, 45, 46, 47, 48, 49, 50, 51, 52, 53] (by decide +kernel) (by decide +kernel)
set_option maxRecDepth 20000 in
theorem gX6_instruct_X6_work : GoodIn wsX6_instruct (wsV RX6 104 RX6 yX6_work wsX6_work) := goodIn_app (goodIn_of _ (by decide +kernel)) ggX6_instruct_X6_work
theorem dX6_instruct_0 : decode cX6_instruct 0 = .ok (.aload_n 0, 1) := by decide +kernel
theorem dX6_instruct_1 : decode cX6_instruct 1 = .ok (.iload_n 1, 1) := by decide +kernel
theorem dX6_instruct_2 : decode cX6_instruct 2 = .ok (.invokevirtual 101, 3) := by decide +kernel
theorem dX6_instruct_5 : decode cX6_instruct 5 = .ok (.aload_n 0, 1) := by decide +kernel
theorem dX6_instruct_6 : decode cX6_instruct 6 = .ok (.iload_n 1, 1) := by decide +kernel
theorem dX6_instruct_7 : decode cX6_instruct 7 = .ok (.iload_n 2, 1) := by decide +kernel
theorem dX6_instruct_8 : decode cX6_instruct 8 = .ok (.invokevirtual 104, 3) := by decide +kernel
theorem dX6_instruct_11 : decode cX6_instruct 11 = .ok (.return_, 1) := by decide +kernel
theorem dX6_pass_0 : decode cX6_pass 0 = .ok (.aload_n 0, 1) := by decide +kernel
theorem dX6_pass_1 : decode cX6_pass 1 = .ok (.dup, 1) := by decide +kernel
theorem dX6_pass_2 : decode cX6_pass 2 = .ok (.getfield 65, 3) := by decide +kernel
theorem dX6_pass_5 : decode cX6_pass 5 = .ok (.iconst 1, 1) := by decide +kernel
theorem dX6_pass_6 : decode cX6_pass 6 = .ok (.iadd, 1) := by decide +kernel
theorem dX6_pass_7 : decode cX6_pass 7 = .ok (.putfield 65, 3) := by decide +kernel
theorem dX6_pass_10 : decode cX6_pass 10 = .ok (.aload_n 0, 1) := by decide +kernel
theorem dX6_pass_11 : decode cX6_pass 11 = .ok (.getfield 65, 3) := by decide +kernel
theorem dX6_pass_14 : decode cX6_pass 14 = .ok (.aload_n 0, 1) := by decide +kernel
theorem dX6_pass_15 : decode cX6_pass 15 = .ok (.getfield 41, 3) := by decide +kernel
theorem dX6_pass_18 : decode cX6_pass 18 = .ok (.irem, 1) := by decide +kernel
theorem dX6_pass_19 : decode cX6_pass 19 = .ok (.ifCond .eq 4, 3) := by decide +kernel
theorem dX6_pass_22 : decode cX6_pass 22 = .ok (.return_, 1) := by decide +kernel
theorem dX6_pass_23 : decode cX6_pass 23 = .ok (.iconst 0, 1) := by decide +kernel
theorem dX6_pass_24 : decode cX6_pass 24 = .ok (.istore_n 1, 1) := by decide +kernel
theorem dX6_pass_25 : decode cX6_pass 25 = .ok (.iload_n 1, 1) := by decide +kernel
theorem dX6_pass_26 : decode cX6_pass 26 = .ok (.bipush 32, 2) := by decide +kernel
theorem dX6_pass_28 : decode cX6_pass 28 = .ok (.if_icmp .ge 16, 3) := by decide +kernel
theorem dX6_pass_31 : decode cX6_pass 31 = .ok (.aload_n 0, 1) := by decide +kernel
theorem dX6_pass_32 : decode cX6_pass 32 = .ok (.getfield 34, 3) := by decide +kernel
theorem dX6_pass_35 : decode cX6_pass 35 = .ok (.iload_n 1, 1) := by decide +kernel
theorem dX6_pass_36 : decode cX6_pass 36 = .ok (.iconst 0, 1) := by decide +kernel
theorem dX6_pass_37 : decode cX6_pass 37 = .ok (.bastore, 1) := by decide +kernel
theorem dX6_pass_38 : decode cX6_pass 38 = .ok (.iinc 1 1, 3) := by decide +kernel
theorem dX6_pass_41 : decode cX6_pass 41 = .ok (.goto (-16), 3) := by decide +kernel
theorem dX6_pass_44 : decode cX6_pass 44 = .ok (.return_, 1) := by decide +kernel
set_option maxRecDepth 20000 in
theorem ggX6_again_X6_interrupt : GoodIn wsX6_again wsX6_interrupt := goodIn_r _ [13, 8, 14, 15, 49, 50, 51, 52, 53, 54, 55, 56, 57, 58, 59, 60, 61, 62, 63, 64, 65, 66, 67, 68, 69, 70, 71] (by decide +kernel) (by decide +kernel)
set_option maxRecDepth 20000 in
theorem gX6_again_X6_interrupt : GoodIn wsX6_again (wsV RX6 107 RX6 yX6_interrupt wsX6_interrupt) := goodIn_app (goodIn_of _ (by decide +kernel)) ggX6_again_X6_interrupt
set_option maxRecDepth 20000 in
theorem ggX6_again_X6_instruct : GoodIn wsX6_again wsX6_instruct := goodIn_r _ [19, 20, 21, 22, 12, 23, 24, 8, 14, 15, 25, 26, 27, 28, 7, 4, 29, 30, 31, 32, 33, 34, 35, 36, 37, 38, 39, 40, 41, 42, 43, 49, 50, 51, 52, 53, 54, 55, 56, 57, 58, 59, 60, 61, 62, 63, 64, 65, 66, 67, 68, 69, 70, 71] (by decide +kernel) (by decide +kernel)
set_option maxRecDepth 20000 in
theorem gX6_again_X6_instruct : GoodIn wsX6_again (wsV RX6 110 RX6 yX6_instruct wsX6_instruct) := goodIn_app (goodIn_of _ (by decide +kernel)) ggX6_again_X6_instruct
set_option maxRecDepth 20000 in
theorem ggX6_again_X6_pass : GoodIn wsX6_again wsX6_pass := goodIn_r _ [47, 4, 48, 37, 49, 50, 51, 52, 53, 54, 55, 56, 57, 58, 59, 60, 61, 62, 63, 64, 65, 66, 67, 68, 69, 70, 71] (by decide +kernel) (by decide +kernel)
set_option maxRecDepth 20000 in
theorem gX6_again_X6_pass : GoodIn wsX6_again (wsV RX6 113 RX6 yX6_pass wsX6_pass) := goodIn_app (goodIn_of _ (by decide +kernel)) ggX6_again_X6_pass
theorem dX6_again_0 : decode cX6_again 0 = .ok (.aload_n 0, 1) := by decide +kernel
theorem dX6_again_1 : decode cX6_again 1 = .ok (.getfield 68, 3) := by decide +kernel
theorem dX6_again_4 : decode cX6_again 4 = .ok (.aload_n 0, 1) := by decide +kernel
theorem dX6_again_5 : decode cX6_again 5 = .ok (.getfield 74, 3) := by decide +kernel
theorem dX6_again_8 : decode cX6_again 8 = .ok (.if_icmp .ge 23, 3) := by decide +kernel
theorem dX6_again_11 : decode cX6_again 11 = .ok (.aload_n 0, 1) := by decide +kernel
theorem dX6_again_12 : decode cX6_again 12 = .ok (.getfield 22, 3) := by decide +kernel
theorem dX6_again_15 : decode cX6_again 15 = .ok (.aload_n 0, 1) := by decide +kernel
theorem dX6_again_16 : decode cX6_again 16 = .ok (.getfield 68, 3) := by decide +kernel
theorem dX6_again_19 : decode cX6_again 19 = .ok (.iaload, 1) := by decide +kernel
theorem dX6_again_20 : decode cX6_again 20 = .ok (.aload_n 0, 1) := by decide +kernel
theorem dX6_again_21 : decode cX6_again 21 = .ok (.getfield 65, 3) := by decide +kernel
theorem dX6_again_24 : decode cX6_again 24 = .ok (.if_icmp .ne 7, 3) := by decide +kernel
theorem dX6_again_27 : decode cX6_again 27 = .ok (.iconst 1, 1) := by decide +kernel
theorem dX6_again_28 : decode cX6_again 28 = .ok (.goto 4, 3) := by decide +kernel
theorem dX6_again_31 : decode cX6_again 31 = .ok (.iconst 0, 1) := by decide +kernel
theorem dX6_again_32 : decode cX6_again 32 = .ok (.istore_n 1, 1) := by decide +kernel
theorem dX6_again_33 : decode cX6_again 33 = .ok (.iload_n 1, 1) := by decide +kernel
theorem dX6_again_34 : decode cX6_again 34 = .ok (.ifCond .eq 15, 3) := by decide +kernel
theorem dX6_again_37 : decode cX6_again 37 = .ok (.aload_n 0, 1) := by decide +kernel
theorem dX6_again_38 : decode cX6_again 38 = .ok (.getfield 28, 3) := by decide +kernel
theorem dX6_again_41 : decode cX6_again 41 = .ok (.aload_n 0, 1) := by decide +kernel
theorem dX6_again_42 : decode cX6_again 42 = .ok (.getfield 68, 3) := by decide +kernel
theorem dX6_again_45 : decode cX6_again 45 = .ok (.iaload, 1) := by decide +kernel
theorem dX6_again_46 : decode cX6_again 46 = .ok (.goto 4, 3) := by decide +kernel
theorem dX6_again_49 : decode cX6_again 49 = .ok (.iconst 0, 1) := by decide +kernel
theorem dX6_again_50 : decode cX6_again 50 = .ok (.istore_n 2, 1) := by decide +kernel
theorem dX6_again_51 : decode cX6_again 51 = .ok (.iload_n 1, 1) := by decide +kernel
theorem dX6_again_52 : decode cX6_again 52 = .ok (.ifCond .eq 23, 3) := by decide +kernel
theorem dX6_again_55 : decode cX6_again 55 = .ok (.aload_n 0, 1) := by decide +kernel
theorem dX6_again_56 : decode cX6_again 56 = .ok (.getfield 25, 3) := by decide +kernel
theorem dX6_again_59 : decode cX6_again 59 = .ok (.aload_n 0, 1) := by decide +kernel
theorem dX6_again_60 : decode cX6_again 60 = .ok (.getfield 68, 3) := by decide +kernel
theorem dX6_again_63 : decode cX6_again 63 = .ok (.iaload, 1) := by decide +kernel
theorem dX6_again_64 : decode cX6_again 64 = .ok (.iconst 2, 1) := by decide +kernel
theorem dX6_again_65 : decode cX6_again 65 = .ok (.if_icmp .ne 10, 3) := by decide +kernel
theorem dX6_again_68 : decode cX6_again 68 = .ok (.aload_n 0, 1) := by decide +kernel
theorem dX6_again_69 : decode cX6_again 69 = .ok (.invokevirtual 107, 3) := by decide +kernel
theorem dX6_again_72 : decode cX6_again 72 = .ok (.goto 17, 3) := by decide +kernel
theorem dX6_again_75 : decode cX6_again 75 = .ok (.aload_n 0, 1) := by decide +kernel
theorem dX6_again_76 : decode cX6_again 76 = .ok (.aload_n 0, 1) := by decide +kernel
theorem dX6_again_77 : decode cX6_again 77 = .ok (.getfield 13, 3) := by decide +kernel
theorem dX6_again_80 : decode cX6_again 80 = .ok (.aload_n 0, 1) := by decide +kernel
theorem dX6_again_81 : decode cX6_again 81 = .ok (.getfield 53, 3) := by decide +kernel
theorem dX6_again_84 : decode cX6_again 84 = .ok (.iaload, 1) := by decide +kernel
theorem dX6_again_85 : decode cX6_again 85 = .ok (.iload_n 2, 1) := by decide +kernel
theorem dX6_again_86 : decode cX6_again 86 = .ok (.invokevirtual 110, 3) := by decide +kernel
theorem dX6_again_89 : decode cX6_again 89 = .ok (.iload_n 1, 1) := by decide +kernel
theorem dX6_again_90 : decode cX6_again 90 = .ok (.ifCond .eq 13, 3) := by decide +kernel
theorem dX6_again_93 : decode cX6_again 93 = .ok (.aload_n 0, 1) := by decide +kernel
theorem dX6_again_94 : decode cX6_again 94 = .ok (.dup, 1) := by decide +kernel
theorem dX6_again_95 : decode cX6_again 95 = .ok (.getfield 68, 3) := by decide +kernel
theorem dX6_again_98 : decode cX6_again 98 = .ok (.iconst 1, 1) := by decide +kernel
theorem dX6_again_99 : decode cX6_again 99 = .ok (.iadd, 1) := by decide +kernel
theorem dX6_again_100 : decode cX6_again 100 = .ok (.putfield 68, 3) := by decide +kernel
theorem dX6_again_103 : decode cX6_again 103 = .ok (.aload_n 0, 1) := by decide +kernel
theorem dX6_again_104 : decode cX6_again 104 = .ok (.invokevirtual 113, 3) := by decide +kernel
theorem dX6_again_107 : decode cX6_again 107 = .ok (.return_, 1) := by decide +kernel
theorem dX6_writtenPages_0 : decode cX6_writtenPages 0 = .ok (.iconst 0, 1) := by decide +kernel
theorem dX6_writtenPages_1 : decode cX6_writtenPages 1 = .ok (.istore_n 1, 1) := by decide +kernel
theorem dX6_writtenPages_2 : decode cX6_writtenPages 2 = .ok (.iconst 0, 1) := by decide +kernel
theorem dX6_writtenPages_3 : decode cX6_writtenPages 3 = .ok (.istore_n 2, 1) := by decide +kernel
theorem dX6_writtenPages_4 : decode cX6_writtenPages 4 = .ok (.iload_n 2, 1) := by decide +kernel
theorem dX6_writtenPages_5 : decode cX6_writtenPages 5 = .ok (.bipush 32, 2) := by decide +kernel
theorem dX6_writtenPages_7 : decode cX6_writtenPages 7 = .ok (.if_icmp .ge 26, 3) := by decide +kernel
theorem dX6_writtenPages_10 : decode cX6_writtenPages 10 = .ok (.iload_n 1, 1) := by decide +kernel
theorem dX6_writtenPages_11 : decode cX6_writtenPages 11 = .ok (.aload_n 0, 1) := by decide +kernel
theorem dX6_writtenPages_12 : decode cX6_writtenPages 12 = .ok (.getfield 34, 3) := by decide +kernel
theorem dX6_writtenPages_15 : decode cX6_writtenPages 15 = .ok (.iload_n 2, 1) := by decide +kernel
theorem dX6_writtenPages_16 : decode cX6_writtenPages 16 = .ok (.baload, 1) := by decide +kernel
theorem dX6_writtenPages_17 : decode cX6_writtenPages 17 = .ok (.ifCond .eq 7, 3) := by decide +kernel
theorem dX6_writtenPages_20 : decode cX6_writtenPages 20 = .ok (.iconst 1, 1) := by decide +kernel
theorem dX6_writtenPages_21 : decode cX6_writtenPages 21 = .ok (.goto 4, 3) := by decide +kernel
theorem dX6_writtenPages_24 : decode cX6_writtenPages 24 = .ok (.iconst 0, 1) := by decide +kernel
theorem dX6_writtenPages_25 : decode cX6_writtenPages 25 = .ok (.iadd, 1) := by decide +kernel
theorem dX6_writtenPages_26 : decode cX6_writtenPages 26 = .ok (.istore_n 1, 1) := by decide +kernel
theorem dX6_writtenPages_27 : decode cX6_writtenPages 27 = .ok (.iinc 2 1, 3) := by decide +kernel
theorem dX6_writtenPages_30 : decode cX6_writtenPages 30 = .ok (.goto (-26), 3) := by decide +kernel
theorem dX6_writtenPages_33 : decode cX6_writtenPages 33 = .ok (.iload_n 1, 1) := by decide +kernel
theorem dX6_writtenPages_34 : decode cX6_writtenPages 34 = .ok (.ireturn, 1) := by decide +kernel
theorem dX6_allPages_0 : decode cX6_allPages 0 = .ok (.iconst 0, 1) := by decide +kernel
theorem dX6_allPages_1 : decode cX6_allPages 1 = .ok (.istore_n 1, 1) := by decide +kernel
theorem dX6_allPages_2 : decode cX6_allPages 2 = .ok (.iconst 0, 1) := by decide +kernel
theorem dX6_allPages_3 : decode cX6_allPages 3 = .ok (.istore_n 2, 1) := by decide +kernel
theorem dX6_allPages_4 : decode cX6_allPages 4 = .ok (.iload_n 2, 1) := by decide +kernel
theorem dX6_allPages_5 : decode cX6_allPages 5 = .ok (.aload_n 0, 1) := by decide +kernel
theorem dX6_allPages_6 : decode cX6_allPages 6 = .ok (.getfield 77, 3) := by decide +kernel
theorem dX6_allPages_9 : decode cX6_allPages 9 = .ok (.if_icmp .ge 18, 3) := by decide +kernel
theorem dX6_allPages_12 : decode cX6_allPages 12 = .ok (.iload_n 1, 1) := by decide +kernel
theorem dX6_allPages_13 : decode cX6_allPages 13 = .ok (.aload_n 0, 1) := by decide +kernel
theorem dX6_allPages_14 : decode cX6_allPages 14 = .ok (.getfield 31, 3) := by decide +kernel
theorem dX6_allPages_17 : decode cX6_allPages 17 = .ok (.iload_n 2, 1) := by decide +kernel
theorem dX6_allPages_18 : decode cX6_allPages 18 = .ok (.iaload, 1) := by decide +kernel
theorem dX6_allPages_19 : decode cX6_allPages 19 = .ok (.iadd, 1) := by decide +kernel
theorem dX6_allPages_20 : decode cX6_allPages 20 = .ok (.istore_n 1, 1) := by decide +kernel
theorem dX6_allPages_21 : decode cX6_allPages 21 = .ok (.iinc 2 1, 3) := by decide +kernel
theorem dX6_allPages_24 : decode cX6_allPages 24 = .ok (.goto (-20), 3) := by decide +kernel
theorem dX6_allPages_27 : decode cX6_allPages 27 = .ok (.iload_n 1, 1) := by decide +kernel
theorem dX6_allPages_28 : decode cX6_allPages 28 = .ok (.ireturn, 1) := by decide +kernel
set_option maxRecDepth 20000 in
theorem ggX6_isFull_X6_writtenPages : GoodIn wsX6_isFull wsX6_writtenPages := goodIn_r _ [9, 3, 20, 21, 22, 23, 24, 25, 26, 27, 28, 29, 30, 31, 32, 33, 34, 35, 36, 37, 38, 39, 40, 41, 42] (by decide +kernel) (by decide +kernel)
set_option maxRecDepth 20000 in
theorem gX6_isFull_X6_writtenPages : GoodIn wsX6_isFull (wsV RX6 116 RX6 yX6_writtenPages wsX6_writtenPages) := goodIn_app (goodIn_of _ (by decide +kernel)) ggX6_isFull_X6_writtenPages
set_option maxRecDepth 20000 in
theorem ggX6_isFull_X6_meant : GoodIn wsX6_isFull wsX6_meant := goodIn_r _ [13, 14, 20, 21, 22, 23, 24, 25, 26, 27, 28, 29, 30, 31, 32, 33, 34, 35, 36, 37, 38, 39, 40, 41, 42] (by decide +kernel) (by decide +kernel)
set_option maxRecDepth 20000 in
theorem gX6_isFull_X6_meant : GoodIn wsX6_isFull (wsV RX6 89 RX6 yX6_meant wsX6_meant) := goodIn_app (goodIn_of _ (by decide +kernel)) ggX6_isFull_X6_meant
set_option maxRecDepth 20000 in
theorem ggX6_isFull_X6_allPages : GoodIn wsX6_isFull wsX6_allPages := goodIn_r _ [18, 4, 19, 20, 21, 22, 23, 24, 25, 26, 27, 28, 29, 30, 31, 32, 33, 34, 35, 36, 37, 38, 39, 40, 41, 42] (by decide +kernel) (by decide +kernel)
set_option maxRecDepth 20000 in
theorem gX6_isFull_X6_allPages : GoodIn wsX6_isFull (wsV RX6 120 RX6 yX6_allPages wsX6_allPages) := goodIn_app (goodIn_of _ (by decide +kernel)) ggX6_isFull_X6_allPages
theorem dX6_isFull_0 : decode cX6_isFull 0 = .ok (.aload_n 0, 1) := by decide +kernel
theorem dX6_isFull_1 : decode cX6_isFull 1 = .ok (.getfield 71, 3) := by decide +kernel
theorem dX6_isFull_4 : decode cX6_isFull 4 = .ok (.iconst 1, 1) := by decide +kernel
theorem dX6_isFull_5 : decode cX6_isFull 5 = .ok (.iadd, 1) := by decide +kernel
theorem dX6_isFull_6 : decode cX6_isFull 6 = .ok (.aload_n 0, 1) := by decide +kernel
theorem dX6_isFull_7 : decode cX6_isFull 7 = .ok (.getfield 41, 3) := by decide +kernel
theorem dX6_isFull_10 : decode cX6_isFull 10 = .ok (.irem, 1) := by decide +kernel
theorem dX6_isFull_11 : decode cX6_isFull 11 = .ok (.ifCond .eq 5, 3) := by decide +kernel
theorem dX6_isFull_14 : decode cX6_isFull 14 = .ok (.iconst 0, 1) := by decide +kernel
theorem dX6_isFull_15 : decode cX6_isFull 15 = .ok (.ireturn, 1) := by decide +kernel
theorem dX6_isFull_16 : decode cX6_isFull 16 = .ok (.iload_n 1, 1) := by decide +kernel
theorem dX6_isFull_17 : decode cX6_isFull 17 = .ok (.ifCond .ne 16, 3) := by decide +kernel
theorem dX6_isFull_20 : decode cX6_isFull 20 = .ok (.iload_n 2, 1) := by decide +kernel
theorem dX6_isFull_21 : decode cX6_isFull 21 = .ok (.bipush 24, 2) := by decide +kernel
theorem dX6_isFull_23 : decode cX6_isFull 23 = .ok (.iushr, 1) := by decide +kernel
theorem dX6_isFull_24 : decode cX6_isFull 24 = .ok (.bipush 8, 2) := by decide +kernel
theorem dX6_isFull_26 : decode cX6_isFull 26 = .ok (.if_icmp .ne 7, 3) := by decide +kernel
theorem dX6_isFull_29 : decode cX6_isFull 29 = .ok (.iconst 1, 1) := by decide +kernel
theorem dX6_isFull_30 : decode cX6_isFull 30 = .ok (.goto 4, 3) := by decide +kernel
theorem dX6_isFull_33 : decode cX6_isFull 33 = .ok (.iconst 0, 1) := by decide +kernel
theorem dX6_isFull_34 : decode cX6_isFull 34 = .ok (.istore_n 3, 1) := by decide +kernel
theorem dX6_isFull_35 : decode cX6_isFull 35 = .ok (.aload_n 0, 1) := by decide +kernel
theorem dX6_isFull_36 : decode cX6_isFull 36 = .ok (.invokevirtual 116, 3) := by decide +kernel
theorem dX6_isFull_39 : decode cX6_isFull 39 = .ok (.iload_n 3, 1) := by decide +kernel
theorem dX6_isFull_40 : decode cX6_isFull 40 = .ok (.ifCond .eq 23, 3) := by decide +kernel
theorem dX6_isFull_43 : decode cX6_isFull 43 = .ok (.aload_n 0, 1) := by decide +kernel
theorem dX6_isFull_44 : decode cX6_isFull 44 = .ok (.getfield 34, 3) := by decide +kernel
theorem dX6_isFull_47 : decode cX6_isFull 47 = .ok (.aload_n 0, 1) := by decide +kernel
theorem dX6_isFull_48 : decode cX6_isFull 48 = .ok (.iload_n 2, 1) := by decide +kernel
theorem dX6_isFull_49 : decode cX6_isFull 49 = .ok (.invokevirtual 89, 3) := by decide +kernel
theorem dX6_isFull_52 : decode cX6_isFull 52 = .ok (.bipush 16, 2) := by decide +kernel
theorem dX6_isFull_54 : decode cX6_isFull 54 = .ok (.idiv, 1) := by decide +kernel
theorem dX6_isFull_55 : decode cX6_isFull 55 = .ok (.baload, 1) := by decide +kernel
theorem dX6_isFull_56 : decode cX6_isFull 56 = .ok (.ifCond .ne 7, 3) := by decide +kernel
theorem dX6_isFull_59 : decode cX6_isFull 59 = .ok (.iconst 1, 1) := by decide +kernel
theorem dX6_isFull_60 : decode cX6_isFull 60 = .ok (.goto 4, 3) := by decide +kernel
theorem dX6_isFull_63 : decode cX6_isFull 63 = .ok (.iconst 0, 1) := by decide +kernel
theorem dX6_isFull_64 : decode cX6_isFull 64 = .ok (.iadd, 1) := by decide +kernel
theorem dX6_isFull_65 : decode cX6_isFull 65 = .ok (.istore 4, 2) := by decide +kernel
theorem dX6_isFull_67 : decode cX6_isFull 67 = .ok (.aload_n 0, 1) := by decide +kernel
theorem dX6_isFull_68 : decode cX6_isFull 68 = .ok (.getfield 77, 3) := by decide +kernel
theorem dX6_isFull_71 : decode cX6_isFull 71 = .ok (.bipush 40, 2) := by decide +kernel
theorem dX6_isFull_73 : decode cX6_isFull 73 = .ok (.if_icmp .eq 16, 3) := by decide +kernel
theorem dX6_isFull_76 : decode cX6_isFull 76 = .ok (.aload_n 0, 1) := by decide +kernel
theorem dX6_isFull_77 : decode cX6_isFull 77 = .ok (.invokevirtual 120, 3) := by decide +kernel
theorem dX6_isFull_80 : decode cX6_isFull 80 = .ok (.iload 4, 2) := by decide +kernel
theorem dX6_isFull_82 : decode cX6_isFull 82 = .ok (.iadd, 1) := by decide +kernel
theorem dX6_isFull_83 : decode cX6_isFull 83 = .ok (.sipush 300, 3) := by decide +kernel
theorem dX6_isFull_86 : decode cX6_isFull 86 = .ok (.if_icmp .le 7, 3) := by decide +kernel
theorem dX6_isFull_89 : decode cX6_isFull 89 = .ok (.iconst 1, 1) := by decide +kernel
theorem dX6_isFull_90 : decode cX6_isFull 90 = .ok (.goto 4, 3) := by decide +kernel
theorem dX6_isFull_93 : decode cX6_isFull 93 = .ok (.iconst 0, 1) := by decide +kernel
theorem dX6_isFull_94 : decode cX6_isFull 94 = .ok (.ireturn, 1) := by decide +kernel
theorem dX6_note_0 : decode cX6_note 0 = .ok (.aload_n 0, 1) := by decide +kernel
theorem dX6_note_1 : decode cX6_note 1 = .ok (.getfield 22, 3) := by decide +kernel
theorem dX6_note_4 : decode cX6_note 4 = .ok (.aload_n 0, 1) := by decide +kernel
theorem dX6_note_5 : decode cX6_note 5 = .ok (.getfield 74, 3) := by decide +kernel
theorem dX6_note_8 : decode cX6_note 8 = .ok (.aload_n 0, 1) := by decide +kernel
theorem dX6_note_9 : decode cX6_note 9 = .ok (.getfield 65, 3) := by decide +kernel
theorem dX6_note_12 : decode cX6_note 12 = .ok (.iastore, 1) := by decide +kernel
theorem dX6_note_13 : decode cX6_note 13 = .ok (.aload_n 0, 1) := by decide +kernel
theorem dX6_note_14 : decode cX6_note 14 = .ok (.getfield 25, 3) := by decide +kernel
theorem dX6_note_17 : decode cX6_note 17 = .ok (.aload_n 0, 1) := by decide +kernel
theorem dX6_note_18 : decode cX6_note 18 = .ok (.getfield 74, 3) := by decide +kernel
theorem dX6_note_21 : decode cX6_note 21 = .ok (.iload_n 1, 1) := by decide +kernel
theorem dX6_note_22 : decode cX6_note 22 = .ok (.iastore, 1) := by decide +kernel
theorem dX6_note_23 : decode cX6_note 23 = .ok (.aload_n 0, 1) := by decide +kernel
theorem dX6_note_24 : decode cX6_note 24 = .ok (.getfield 28, 3) := by decide +kernel
theorem dX6_note_27 : decode cX6_note 27 = .ok (.aload_n 0, 1) := by decide +kernel
theorem dX6_note_28 : decode cX6_note 28 = .ok (.getfield 74, 3) := by decide +kernel
theorem dX6_note_31 : decode cX6_note 31 = .ok (.iload_n 2, 1) := by decide +kernel
theorem dX6_note_32 : decode cX6_note 32 = .ok (.iastore, 1) := by decide +kernel
theorem dX6_note_33 : decode cX6_note 33 = .ok (.aload_n 0, 1) := by decide +kernel
theorem dX6_note_34 : decode cX6_note 34 = .ok (.dup, 1) := by decide +kernel
theorem dX6_note_35 : decode cX6_note 35 = .ok (.getfield 74, 3) := by decide +kernel
theorem dX6_note_38 : decode cX6_note 38 = .ok (.iconst 1, 1) := by decide +kernel
theorem dX6_note_39 : decode cX6_note 39 = .ok (.iadd, 1) := by decide +kernel
theorem dX6_note_40 : decode cX6_note 40 = .ok (.putfield 74, 3) := by decide +kernel
theorem dX6_note_43 : decode cX6_note 43 = .ok (.aload_n 0, 1) := by decide +kernel
theorem dX6_note_44 : decode cX6_note 44 = .ok (.aload_n 0, 1) := by decide +kernel
theorem dX6_note_45 : decode cX6_note 45 = .ok (.getfield 74, 3) := by decide +kernel
theorem dX6_note_48 : decode cX6_note 48 = .ok (.putfield 68, 3) := by decide +kernel
theorem dX6_note_51 : decode cX6_note 51 = .ok (.return_, 1) := by decide +kernel
theorem dX6_takeInput_0 : decode cX6_takeInput 0 = .ok (.aload_n 0, 1) := by decide +kernel
theorem dX6_takeInput_1 : decode cX6_takeInput 1 = .ok (.getfield 38, 3) := by decide +kernel
theorem dX6_takeInput_4 : decode cX6_takeInput 4 = .ok (.iconst 0, 1) := by decide +kernel
theorem dX6_takeInput_5 : decode cX6_takeInput 5 = .ok (.iaload, 1) := by decide +kernel
theorem dX6_takeInput_6 : decode cX6_takeInput 6 = .ok (.istore_n 1, 1) := by decide +kernel
theorem dX6_takeInput_7 : decode cX6_takeInput 7 = .ok (.aload_n 0, 1) := by decide +kernel
theorem dX6_takeInput_8 : decode cX6_takeInput 8 = .ok (.dup, 1) := by decide +kernel
theorem dX6_takeInput_9 : decode cX6_takeInput 9 = .ok (.getfield 80, 3) := by decide +kernel
theorem dX6_takeInput_12 : decode cX6_takeInput 12 = .ok (.iconst 1, 1) := by decide +kernel
theorem dX6_takeInput_13 : decode cX6_takeInput 13 = .ok (.isub, 1) := by decide +kernel
theorem dX6_takeInput_14 : decode cX6_takeInput 14 = .ok (.putfield 80, 3) := by decide +kernel
theorem dX6_takeInput_17 : decode cX6_takeInput 17 = .ok (.iconst 0, 1) := by decide +kernel
theorem dX6_takeInput_18 : decode cX6_takeInput 18 = .ok (.istore_n 2, 1) := by decide +kernel
theorem dX6_takeInput_19 : decode cX6_takeInput 19 = .ok (.iload_n 2, 1) := by decide +kernel
theorem dX6_takeInput_20 : decode cX6_takeInput 20 = .ok (.aload_n 0, 1) := by decide +kernel
theorem dX6_takeInput_21 : decode cX6_takeInput 21 = .ok (.getfield 80, 3) := by decide +kernel
theorem dX6_takeInput_24 : decode cX6_takeInput 24 = .ok (.if_icmp .ge 23, 3) := by decide +kernel
theorem dX6_takeInput_27 : decode cX6_takeInput 27 = .ok (.aload_n 0, 1) := by decide +kernel
theorem dX6_takeInput_28 : decode cX6_takeInput 28 = .ok (.getfield 38, 3) := by decide +kernel
theorem dX6_takeInput_31 : decode cX6_takeInput 31 = .ok (.iload_n 2, 1) := by decide +kernel
theorem dX6_takeInput_32 : decode cX6_takeInput 32 = .ok (.aload_n 0, 1) := by decide +kernel
theorem dX6_takeInput_33 : decode cX6_takeInput 33 = .ok (.getfield 38, 3) := by decide +kernel
theorem dX6_takeInput_36 : decode cX6_takeInput 36 = .ok (.iload_n 2, 1) := by decide +kernel
theorem dX6_takeInput_37 : decode cX6_takeInput 37 = .ok (.iconst 1, 1) := by decide +kernel
theorem dX6_takeInput_38 : decode cX6_takeInput 38 = .ok (.iadd, 1) := by decide +kernel
theorem dX6_takeInput_39 : decode cX6_takeInput 39 = .ok (.iaload, 1) := by decide +kernel
theorem dX6_takeInput_40 : decode cX6_takeInput 40 = .ok (.iastore, 1) := by decide +kernel
theorem dX6_takeInput_41 : decode cX6_takeInput 41 = .ok (.iinc 2 1, 3) := by decide +kernel
theorem dX6_takeInput_44 : decode cX6_takeInput 44 = .ok (.goto (-25), 3) := by decide +kernel
theorem dX6_takeInput_47 : decode cX6_takeInput 47 = .ok (.iload_n 1, 1) := by decide +kernel
theorem dX6_takeInput_48 : decode cX6_takeInput 48 = .ok (.ireturn, 1) := by decide +kernel
set_option maxRecDepth 20000 in
theorem ggX6_live_X6_isFull : GoodIn wsX6_live wsX6_isFull := goodIn_r _ [15, 7, 8, 16, 10, 17, 18, 19, 14, 20, 21, 22, 23, 24, 25, 26, 27, 28, 29, 9, 75, 76, 77, 78, 79, 80, 81, 82, 83, 84, 85, 86, 87, 88, 89, 90, 91, 92, 93, 94, 95, 96, 97] (by decide +kernel) (by decide +kernel)
set_option maxRecDepth 20000 in
theorem gX6_live_X6_isFull : GoodIn wsX6_live (wsV RX6 123 RX6 yX6_isFull wsX6_isFull) := goodIn_app (goodIn_of _ (by decide +kernel)) ggX6_live_X6_isFull
set_option maxRecDepth 20000 in
theorem ggX6_live_X6_takeInput : GoodIn wsX6_live wsX6_takeInput := goodIn_r _ [33, 34, 5, 75, 76, 77, 78, 79, 80, 81, 82, 83, 84, 85, 86, 87, 88, 89, 90, 91, 92, 93, 94, 95, 96, 97] (by decide +kernel) (by decide +kernel)
set_option maxRecDepth 20000 in
theorem gX6_live_X6_takeInput : GoodIn wsX6_live (wsV RX6 127 RX6 yX6_takeInput wsX6_takeInput) := goodIn_app (goodIn_of _ (by decide +kernel)) ggX6_live_X6_takeInput
set_option maxRecDepth 20000 in
theorem ggX6_live_X6_note : GoodIn wsX6_live wsX6_note := goodIn_r _ [38, 39, 6, 40, 41, 42, 43, 75, 76, 77, 78, 79, 80, 81, 82, 83, 84, 85, 86, 87, 88, 89, 90, 91, 92, 93, 94, 95, 96, 97] (by decide +kernel) (by decide +kernel)
set_option maxRecDepth 20000 in
theorem gX6_live_X6_note : GoodIn wsX6_live (wsV RX6 130 RX6 yX6_note wsX6_note) := goodIn_app (goodIn_of _ (by decide +kernel)) ggX6_live_X6_note
set_option maxRecDepth 20000 in
theorem ggX6_live_X6_interrupt : GoodIn wsX6_live wsX6_interrupt := goodIn_r _ [47, 4, 48, 2, 75, 76, 77, 78, 79, 80, 81, 82, 83, 84, 85, 86, 87, 88, 89, 90, 91, 92, 93, 94, 95, 96, 97] (by decide +kernel) (by decide +kernel)
set_option maxRecDepth 20000 in
theorem gX6_live_X6_interrupt : GoodIn wsX6_live (wsV RX6 107 RX6 yX6_interrupt wsX6_interrupt) := goodIn_app (goodIn_of _ (by decide +kernel)) ggX6_live_X6_interrupt
set_option maxRecDepth 20000 in
theorem ggX6_live_X6_instruct : GoodIn wsX6_live wsX6_instruct := goodIn_r _ [52, 53, 54, 55, 14, 56, 25, 4, 48, 2, 57, 58, 59, 60, 3, 40, 21, 22, 23, 24, 61, 62, 63, 64, 16, 65, 66, 67, 68, 69, 70, 75, 76, 77, 78, 79, 80, 81, 82, 83, 84, 85, 86, 87, 88, 89, 90, 91, 92, 93, 94, 95, 96, 97] (by decide +kernel) (by decide +kernel)
set_option maxRecDepth 20000 in
theorem gX6_live_X6_instruct : GoodIn wsX6_live (wsV RX6 110 RX6 yX6_instruct wsX6_instruct) := goodIn_app (goodIn_of _ (by decide +kernel)) ggX6_live_X6_instruct
set_option maxRecDepth 20000 in
theorem ggX6_live_X6_writtenPages : GoodIn wsX6_live wsX6_writtenPages := goodIn_r _ [20, 16, 75, 76, 77, 78, 79, 80, 81, 82, 83, 84, 85, 86, 87, 88, 89, 90, 91, 92, 93, 94, 95, 96, 97] (by decide +kernel) (by decide +kernel)
set_option maxRecDepth 20000 in
theorem gX6_live_X6_writtenPages : GoodIn wsX6_live (wsV RX6 116 RX6 yX6_writtenPages wsX6_writtenPages) := goodIn_app (goodIn_of _ (by decide +kernel)) ggX6_live_X6_writtenPages
set_option maxRecDepth 20000 in
theorem ggX6_live_X6_pass : GoodIn wsX6_live wsX6_pass := goodIn_r _ [74, 40, 8, 16, 75, 76, 77, 78, 79, 80, 81, 82, 83, 84, 85, 86, 87, 88, 89, 90, 91, 92, 93, 94, 95, 96, 97] (by decide +kernel) (by decide +kernel)
set_option maxRecDepth 20000 in
theorem gX6_live_X6_pass : GoodIn wsX6_live (wsV RX6 113 RX6 yX6_pass wsX6_pass) := goodIn_app (goodIn_of _ (by decide +kernel)) ggX6_live_X6_pass
theorem dX6_live_0 : decode cX6_live 0 = .ok (.aload_n 0, 1) := by decide +kernel
theorem dX6_live_1 : decode cX6_live 1 = .ok (.getfield 83, 3) := by decide +kernel
theorem dX6_live_4 : decode cX6_live 4 = .ok (.ifCond .eq 14, 3) := by decide +kernel
theorem dX6_live_7 : decode cX6_live 7 = .ok (.aload_n 0, 1) := by decide +kernel
theorem dX6_live_8 : decode cX6_live 8 = .ok (.getfield 59, 3) := by decide +kernel
theorem dX6_live_11 : decode cX6_live 11 = .ok (.ifCond .eq 7, 3) := by decide +kernel
theorem dX6_live_14 : decode cX6_live 14 = .ok (.iconst 1, 1) := by decide +kernel
theorem dX6_live_15 : decode cX6_live 15 = .ok (.goto 4, 3) := by decide +kernel
theorem dX6_live_18 : decode cX6_live 18 = .ok (.iconst 0, 1) := by decide +kernel
theorem dX6_live_19 : decode cX6_live 19 = .ok (.istore_n 1, 1) := by decide +kernel
theorem dX6_live_20 : decode cX6_live 20 = .ok (.aload_n 0, 1) := by decide +kernel
theorem dX6_live_21 : decode cX6_live 21 = .ok (.getfield 13, 3) := by decide +kernel
theorem dX6_live_24 : decode cX6_live 24 = .ok (.aload_n 0, 1) := by decide +kernel
theorem dX6_live_25 : decode cX6_live 25 = .ok (.getfield 53, 3) := by decide +kernel
theorem dX6_live_28 : decode cX6_live 28 = .ok (.iaload, 1) := by decide +kernel
theorem dX6_live_29 : decode cX6_live 29 = .ok (.istore_n 2, 1) := by decide +kernel
theorem dX6_live_30 : decode cX6_live 30 = .ok (.iload_n 1, 1) := by decide +kernel
theorem dX6_live_31 : decode cX6_live 31 = .ok (.ifCond .ne 16, 3) := by decide +kernel
theorem dX6_live_34 : decode cX6_live 34 = .ok (.iload_n 2, 1) := by decide +kernel
theorem dX6_live_35 : decode cX6_live 35 = .ok (.bipush 24, 2) := by decide +kernel
theorem dX6_live_37 : decode cX6_live 37 = .ok (.iushr, 1) := by decide +kernel
theorem dX6_live_38 : decode cX6_live 38 = .ok (.bipush 12, 2) := by decide +kernel
theorem dX6_live_40 : decode cX6_live 40 = .ok (.if_icmp .ne 7, 3) := by decide +kernel
theorem dX6_live_43 : decode cX6_live 43 = .ok (.iconst 1, 1) := by decide +kernel
theorem dX6_live_44 : decode cX6_live 44 = .ok (.goto 4, 3) := by decide +kernel
theorem dX6_live_47 : decode cX6_live 47 = .ok (.iconst 0, 1) := by decide +kernel
theorem dX6_live_48 : decode cX6_live 48 = .ok (.istore_n 3, 1) := by decide +kernel
theorem dX6_live_49 : decode cX6_live 49 = .ok (.iload_n 1, 1) := by decide +kernel
theorem dX6_live_50 : decode cX6_live 50 = .ok (.ifCond .ne 10, 3) := by decide +kernel
theorem dX6_live_53 : decode cX6_live 53 = .ok (.iload_n 2, 1) := by decide +kernel
theorem dX6_live_54 : decode cX6_live 54 = .ok (.bipush 24, 2) := by decide +kernel
theorem dX6_live_56 : decode cX6_live 56 = .ok (.iushr, 1) := by decide +kernel
theorem dX6_live_57 : decode cX6_live 57 = .ok (.ifCond .eq 14, 3) := by decide +kernel
theorem dX6_live_60 : decode cX6_live 60 = .ok (.iload_n 3, 1) := by decide +kernel
theorem dX6_live_61 : decode cX6_live 61 = .ok (.ifCond .eq 12, 3) := by decide +kernel
theorem dX6_live_64 : decode cX6_live 64 = .ok (.aload_n 0, 1) := by decide +kernel
theorem dX6_live_65 : decode cX6_live 65 = .ok (.getfield 80, 3) := by decide +kernel
theorem dX6_live_68 : decode cX6_live 68 = .ok (.ifCond .ne 5, 3) := by decide +kernel
theorem dX6_live_71 : decode cX6_live 71 = .ok (.iconst 0, 1) := by decide +kernel
theorem dX6_live_72 : decode cX6_live 72 = .ok (.ireturn, 1) := by decide +kernel
theorem dX6_live_73 : decode cX6_live 73 = .ok (.iload_n 1, 1) := by decide +kernel
theorem dX6_live_74 : decode cX6_live 74 = .ok (.ifCond .ne 7, 3) := by decide +kernel
theorem dX6_live_77 : decode cX6_live 77 = .ok (.iload_n 3, 1) := by decide +kernel
theorem dX6_live_78 : decode cX6_live 78 = .ok (.ifCond .eq 13, 3) := by decide +kernel
theorem dX6_live_81 : decode cX6_live 81 = .ok (.aload_n 0, 1) := by decide +kernel
theorem dX6_live_82 : decode cX6_live 82 = .ok (.getfield 74, 3) := by decide +kernel
theorem dX6_live_85 : decode cX6_live 85 = .ok (.sipush 300, 3) := by decide +kernel
theorem dX6_live_88 : decode cX6_live 88 = .ok (.if_icmp .eq 12, 3) := by decide +kernel
theorem dX6_live_91 : decode cX6_live 91 = .ok (.aload_n 0, 1) := by decide +kernel
theorem dX6_live_92 : decode cX6_live 92 = .ok (.iload_n 1, 1) := by decide +kernel
theorem dX6_live_93 : decode cX6_live 93 = .ok (.iload_n 2, 1) := by decide +kernel
theorem dX6_live_94 : decode cX6_live 94 = .ok (.invokevirtual 123, 3) := by decide +kernel
theorem dX6_live_97 : decode cX6_live 97 = .ok (.ifCond .eq 5, 3) := by decide +kernel
theorem dX6_live_100 : decode cX6_live 100 = .ok (.iconst 0, 1) := by decide +kernel
theorem dX6_live_101 : decode cX6_live 101 = .ok (.ireturn, 1) := by decide +kernel
theorem dX6_live_102 : decode cX6_live 102 = .ok (.iload_n 3, 1) := by decide +kernel
theorem dX6_live_103 : decode cX6_live 103 = .ok (.ifCond .eq 10, 3) := by decide +kernel
theorem dX6_live_106 : decode cX6_live 106 = .ok (.aload_n 0, 1) := by decide +kernel
theorem dX6_live_107 : decode cX6_live 107 = .ok (.invokevirtual 127, 3) := by decide +kernel
theorem dX6_live_110 : decode cX6_live 110 = .ok (.goto 4, 3) := by decide +kernel
theorem dX6_live_113 : decode cX6_live 113 = .ok (.iconst 0, 1) := by decide +kernel
theorem dX6_live_114 : decode cX6_live 114 = .ok (.istore 4, 2) := by decide +kernel
theorem dX6_live_116 : decode cX6_live 116 = .ok (.iload_n 1, 1) := by decide +kernel
theorem dX6_live_117 : decode cX6_live 117 = .ok (.ifCond .ne 7, 3) := by decide +kernel
theorem dX6_live_120 : decode cX6_live 120 = .ok (.iload_n 3, 1) := by decide +kernel
theorem dX6_live_121 : decode cX6_live 121 = .ok (.ifCond .eq 18, 3) := by decide +kernel
theorem dX6_live_124 : decode cX6_live 124 = .ok (.aload_n 0, 1) := by decide +kernel
theorem dX6_live_125 : decode cX6_live 125 = .ok (.iload_n 1, 1) := by decide +kernel
theorem dX6_live_126 : decode cX6_live 126 = .ok (.ifCond .eq 7, 3) := by decide +kernel
theorem dX6_live_129 : decode cX6_live 129 = .ok (.iconst 2, 1) := by decide +kernel
theorem dX6_live_130 : decode cX6_live 130 = .ok (.goto 4, 3) := by decide +kernel
theorem dX6_live_133 : decode cX6_live 133 = .ok (.iconst 1, 1) := by decide +kernel
theorem dX6_live_134 : decode cX6_live 134 = .ok (.iload 4, 2) := by decide +kernel
theorem dX6_live_136 : decode cX6_live 136 = .ok (.invokevirtual 130, 3) := by decide +kernel
theorem dX6_live_139 : decode cX6_live 139 = .ok (.iload_n 1, 1) := by decide +kernel
theorem dX6_live_140 : decode cX6_live 140 = .ok (.ifCond .eq 15, 3) := by decide +kernel
theorem dX6_live_143 : decode cX6_live 143 = .ok (.aload_n 0, 1) := by decide +kernel
theorem dX6_live_144 : decode cX6_live 144 = .ok (.iconst 0, 1) := by decide +kernel
theorem dX6_live_145 : decode cX6_live 145 = .ok (.putfield 83, 3) := by decide +kernel
theorem dX6_live_148 : decode cX6_live 148 = .ok (.aload_n 0, 1) := by decide +kernel
theorem dX6_live_149 : decode cX6_live 149 = .ok (.invokevirtual 107, 3) := by decide +kernel
theorem dX6_live_152 : decode cX6_live 152 = .ok (.goto 10, 3) := by decide +kernel
theorem dX6_live_155 : decode cX6_live 155 = .ok (.aload_n 0, 1) := by decide +kernel
theorem dX6_live_156 : decode cX6_live 156 = .ok (.iload_n 2, 1) := by decide +kernel
theorem dX6_live_157 : decode cX6_live 157 = .ok (.iload 4, 2) := by decide +kernel
theorem dX6_live_159 : decode cX6_live 159 = .ok (.invokevirtual 110, 3) := by decide +kernel
theorem dX6_live_162 : decode cX6_live 162 = .ok (.aload_n 0, 1) := by decide +kernel
theorem dX6_live_163 : decode cX6_live 163 = .ok (.dup, 1) := by decide +kernel
theorem dX6_live_164 : decode cX6_live 164 = .ok (.getfield 71, 3) := by decide +kernel
theorem dX6_live_167 : decode cX6_live 167 = .ok (.iconst 1, 1) := by decide +kernel
theorem dX6_live_168 : decode cX6_live 168 = .ok (.iadd, 1) := by decide +kernel
theorem dX6_live_169 : decode cX6_live 169 = .ok (.putfield 71, 3) := by decide +kernel
theorem dX6_live_172 : decode cX6_live 172 = .ok (.aload_n 0, 1) := by decide +kernel
theorem dX6_live_173 : decode cX6_live 173 = .ok (.getfield 71, 3) := by decide +kernel
theorem dX6_live_176 : decode cX6_live 176 = .ok (.aload_n 0, 1) := by decide +kernel
theorem dX6_live_177 : decode cX6_live 177 = .ok (.getfield 41, 3) := by decide +kernel
theorem dX6_live_180 : decode cX6_live 180 = .ok (.irem, 1) := by decide +kernel
theorem dX6_live_181 : decode cX6_live 181 = .ok (.ifCond .ne 26, 3) := by decide +kernel
theorem dX6_live_184 : decode cX6_live 184 = .ok (.aload_n 0, 1) := by decide +kernel
theorem dX6_live_185 : decode cX6_live 185 = .ok (.getfield 31, 3) := by decide +kernel
theorem dX6_live_188 : decode cX6_live 188 = .ok (.aload_n 0, 1) := by decide +kernel
theorem dX6_live_189 : decode cX6_live 189 = .ok (.getfield 77, 3) := by decide +kernel
theorem dX6_live_192 : decode cX6_live 192 = .ok (.aload_n 0, 1) := by decide +kernel
theorem dX6_live_193 : decode cX6_live 193 = .ok (.invokevirtual 116, 3) := by decide +kernel
theorem dX6_live_196 : decode cX6_live 196 = .ok (.iastore, 1) := by decide +kernel
theorem dX6_live_197 : decode cX6_live 197 = .ok (.aload_n 0, 1) := by decide +kernel
theorem dX6_live_198 : decode cX6_live 198 = .ok (.dup, 1) := by decide +kernel
theorem dX6_live_199 : decode cX6_live 199 = .ok (.getfield 77, 3) := by decide +kernel
theorem dX6_live_202 : decode cX6_live 202 = .ok (.iconst 1, 1) := by decide +kernel
theorem dX6_live_203 : decode cX6_live 203 = .ok (.iadd, 1) := by decide +kernel
theorem dX6_live_204 : decode cX6_live 204 = .ok (.putfield 77, 3) := by decide +kernel
theorem dX6_live_207 : decode cX6_live 207 = .ok (.aload_n 0, 1) := by decide +kernel
theorem dX6_live_208 : decode cX6_live 208 = .ok (.invokevirtual 113, 3) := by decide +kernel
theorem dX6_live_211 : decode cX6_live 211 = .ok (.iconst 1, 1) := by decide +kernel
theorem dX6_live_212 : decode cX6_live 212 = .ok (.ireturn, 1) := by decide +kernel
set_option maxRecDepth 20000 in
theorem ggX6_step_X6_again : GoodIn wsX6_step wsX6_again := goodIn_r _ [8, 9, 10, 11, 2, 12, 13, 14, 15, 16, 17, 18, 7, 19, 20, 21, 22, 23, 24, 25, 26, 27, 28, 29, 30, 31, 32, 33, 34, 35, 36, 37, 38, 39, 40, 41, 42, 43, 44, 45, 46, 47, 48, 49, 50, 51, 52, 53, 54, 84, 85, 86, 87, 88, 89, 90, 91, 92, 93, 94, 95, 96, 97, 98, 99, 100, 101, 102, 103, 104, 105, 106] (by decide +kernel) (by decide +kernel)
set_option maxRecDepth 20000 in
theorem gX6_step_X6_again : GoodIn wsX6_step (wsV RX6 133 RX6 yX6_again wsX6_again) := goodIn_app (goodIn_of _ (by decide +kernel)) ggX6_step_X6_again
set_option maxRecDepth 20000 in
theorem ggX6_step_X6_live : GoodIn wsX6_step wsX6_live := goodIn_r _ [58, 59, 21, 14, 15, 60, 10, 3, 54, 61, 62, 63, 64, 65, 7, 66, 43, 67, 68, 69, 70, 35, 36, 37, 38, 30, 71, 72, 73, 74, 75, 76, 77, 78, 79, 80, 81, 82, 83, 11, 2, 13, 12, 9, 16, 17, 18, 19, 20, 22, 23, 24, 25, 26, 27, 28, 29, 31, 32, 33, 34, 39, 40, 41, 42, 44, 45, 46, 47, 48, 49, 50, 51, 52, 53, 84, 85, 86, 87, 88, 89, 90, 91, 92, 93, 94, 95, 96, 97, 98, 99, 100, 101, 102, 103, 104, 105, 106] (by decide +kernel) (by decide +kernel)
set_option maxRecDepth 20000 in
theorem gX6_step_X6_live : GoodIn wsX6_step (wsV RX6 136 RX6 yX6_live wsX6_live) := goodIn_app (goodIn_of _ (by decide +kernel)) ggX6_step_X6_live
theorem dX6_step_0 : decode cX6_step 0 = .ok (.aload_n 0, 1) := by decide +kernel
theorem dX6_step_1 : decode cX6_step 1 = .ok (.getfield 45, 3) := by decide +kernel
theorem dX6_step_4 : decode cX6_step 4 = .ok (.ifCond .ne 5, 3) := by decide +kernel
theorem dX6_step_7 : decode cX6_step 7 = .ok (.iconst (-1), 1) := by decide +kernel
theorem dX6_step_8 : decode cX6_step 8 = .ok (.ireturn, 1) := by decide +kernel
theorem dX6_step_9 : decode cX6_step 9 = .ok (.iload_n 1, 1) := by decide +kernel
theorem dX6_step_10 : decode cX6_step 10 = .ok (.sipush 10000, 3) := by decide +kernel
theorem dX6_step_13 : decode cX6_step 13 = .ok (.if_icmp .le 9, 3) := by decide +kernel
theorem dX6_step_16 : decode cX6_step 16 = .ok (.sipush 10000, 3) := by decide +kernel
theorem dX6_step_19 : decode cX6_step 19 = .ok (.goto 4, 3) := by decide +kernel
theorem dX6_step_22 : decode cX6_step 22 = .ok (.iload_n 1, 1) := by decide +kernel
theorem dX6_step_23 : decode cX6_step 23 = .ok (.istore_n 2, 1) := by decide +kernel
theorem dX6_step_24 : decode cX6_step 24 = .ok (.iconst 0, 1) := by decide +kernel
theorem dX6_step_25 : decode cX6_step 25 = .ok (.istore_n 3, 1) := by decide +kernel
theorem dX6_step_26 : decode cX6_step 26 = .ok (.iconst 1, 1) := by decide +kernel
theorem dX6_step_27 : decode cX6_step 27 = .ok (.istore 4, 2) := by decide +kernel
theorem dX6_step_29 : decode cX6_step 29 = .ok (.iload 4, 2) := by decide +kernel
theorem dX6_step_31 : decode cX6_step 31 = .ok (.ifCond .eq 48, 3) := by decide +kernel
theorem dX6_step_34 : decode cX6_step 34 = .ok (.iload_n 3, 1) := by decide +kernel
theorem dX6_step_35 : decode cX6_step 35 = .ok (.iload_n 2, 1) := by decide +kernel
theorem dX6_step_36 : decode cX6_step 36 = .ok (.if_icmp .ge 43, 3) := by decide +kernel
theorem dX6_step_39 : decode cX6_step 39 = .ok (.aload_n 0, 1) := by decide +kernel
theorem dX6_step_40 : decode cX6_step 40 = .ok (.getfield 65, 3) := by decide +kernel
theorem dX6_step_43 : decode cX6_step 43 = .ok (.aload_n 0, 1) := by decide +kernel
theorem dX6_step_44 : decode cX6_step 44 = .ok (.getfield 71, 3) := by decide +kernel
theorem dX6_step_47 : decode cX6_step 47 = .ok (.if_icmp .ge 10, 3) := by decide +kernel
theorem dX6_step_50 : decode cX6_step 50 = .ok (.aload_n 0, 1) := by decide +kernel
theorem dX6_step_51 : decode cX6_step 51 = .ok (.invokevirtual 133, 3) := by decide +kernel
theorem dX6_step_54 : decode cX6_step 54 = .ok (.goto 9, 3) := by decide +kernel
theorem dX6_step_57 : decode cX6_step 57 = .ok (.aload_n 0, 1) := by decide +kernel
theorem dX6_step_58 : decode cX6_step 58 = .ok (.invokevirtual 136, 3) := by decide +kernel
theorem dX6_step_61 : decode cX6_step 61 = .ok (.istore 4, 2) := by decide +kernel
theorem dX6_step_63 : decode cX6_step 63 = .ok (.iload_n 3, 1) := by decide +kernel
theorem dX6_step_64 : decode cX6_step 64 = .ok (.iload 4, 2) := by decide +kernel
theorem dX6_step_66 : decode cX6_step 66 = .ok (.ifCond .eq 7, 3) := by decide +kernel
theorem dX6_step_69 : decode cX6_step 69 = .ok (.iconst 1, 1) := by decide +kernel
theorem dX6_step_70 : decode cX6_step 70 = .ok (.goto 4, 3) := by decide +kernel
theorem dX6_step_73 : decode cX6_step 73 = .ok (.iconst 0, 1) := by decide +kernel
theorem dX6_step_74 : decode cX6_step 74 = .ok (.iadd, 1) := by decide +kernel
theorem dX6_step_75 : decode cX6_step 75 = .ok (.istore_n 3, 1) := by decide +kernel
theorem dX6_step_76 : decode cX6_step 76 = .ok (.goto (-47), 3) := by decide +kernel
theorem dX6_step_79 : decode cX6_step 79 = .ok (.iload_n 3, 1) := by decide +kernel
theorem dX6_step_80 : decode cX6_step 80 = .ok (.ireturn, 1) := by decide +kernel
theorem dX6_isThere_0 : decode cX6_isThere 0 = .ok (.aload_n 0, 1) := by decide +kernel
theorem dX6_isThere_1 : decode cX6_isThere 1 = .ok (.getfield 45, 3) := by decide +kernel
theorem dX6_isThere_4 : decode cX6_isThere 4 = .ok (.ifCond .eq 19, 3) := by decide +kernel
theorem dX6_isThere_7 : decode cX6_isThere 7 = .ok (.iload_n 1, 1) := by decide +kernel
theorem dX6_isThere_8 : decode cX6_isThere 8 = .ok (.ifCond .lt 15, 3) := by decide +kernel
theorem dX6_isThere_11 : decode cX6_isThere 11 = .ok (.iload_n 1, 1) := by decide +kernel
theorem dX6_isThere_12 : decode cX6_isThere 12 = .ok (.aload_n 0, 1) := by decide +kernel
theorem dX6_isThere_13 : decode cX6_isThere 13 = .ok (.getfield 71, 3) := by decide +kernel
theorem dX6_isThere_16 : decode cX6_isThere 16 = .ok (.if_icmp .gt 7, 3) := by decide +kernel
theorem dX6_isThere_19 : decode cX6_isThere 19 = .ok (.iconst 1, 1) := by decide +kernel
theorem dX6_isThere_20 : decode cX6_isThere 20 = .ok (.goto 4, 3) := by decide +kernel
theorem dX6_isThere_23 : decode cX6_isThere 23 = .ok (.iconst 0, 1) := by decide +kernel
theorem dX6_isThere_24 : decode cX6_isThere 24 = .ok (.ireturn, 1) := by decide +kernel
set_option maxRecDepth 20000 in
theorem ggX6_go_X6_isThere : GoodIn wsX6_go wsX6_isThere := goodIn_r _ [6, 7, 8, 64, 65, 66, 67, 68, 69, 70, 71, 72, 73, 74, 75, 76, 77, 78, 79, 80, 81, 82, 83, 84, 85, 86] (by decide +kernel) (by decide +kernel)
set_option maxRecDepth 20000 in
theorem gX6_go_X6_isThere : GoodIn wsX6_go (wsV RX6 140 RX6 yX6_isThere wsX6_isThere) := goodIn_app (goodIn_of _ (by decide +kernel)) ggX6_go_X6_isThere
set_option maxRecDepth 20000 in
theorem ggX6_go_X6_rewind : GoodIn wsX6_go wsX6_rewind := goodIn_r _ [12, 13, 14, 15, 16, 17, 18, 19, 20, 1, 21, 64, 65, 66, 67, 68, 69, 70, 71, 72, 73, 74, 75, 76, 77, 78, 79, 80, 81, 82, 83, 84, 85, 86] (by decide +kernel) (by decide +kernel)
set_option maxRecDepth 20000 in
theorem gX6_go_X6_rewind : GoodIn wsX6_go (wsV RX6 86 RX6 yX6_rewind wsX6_rewind) := goodIn_app (goodIn_of _ (by decide +kernel)) ggX6_go_X6_rewind
set_option maxRecDepth 20000 in
theorem ggX6_go_X6_again : GoodIn wsX6_go wsX6_again := goodIn_r _ [25, 21, 26, 27, 1, 28, 29, 13, 17, 30, 31, 32, 5, 33, 18, 19, 34, 35, 36, 37, 38, 39, 40, 41, 15, 42, 43, 44, 45, 46, 47, 48, 49, 50, 51, 52, 53, 16, 54, 55, 56, 57, 20, 58, 59, 60, 61, 62, 63, 64, 65, 66, 67, 68, 69, 70, 71, 72, 73, 74, 75, 76, 77, 78, 79, 80, 81, 82, 83, 84, 85, 86] (by decide +kernel) (by decide +kernel)
set_option maxRecDepth 20000 in
theorem gX6_go_X6_again : GoodIn wsX6_go (wsV RX6 133 RX6 yX6_again wsX6_again) := goodIn_app (goodIn_of _ (by decide +kernel)) ggX6_go_X6_again
theorem dX6_go_0 : decode cX6_go 0 = .ok (.aload_n 0, 1) := by decide +kernel
theorem dX6_go_1 : decode cX6_go 1 = .ok (.iload_n 1, 1) := by decide +kernel
theorem dX6_go_2 : decode cX6_go 2 = .ok (.invokevirtual 140, 3) := by decide +kernel
theorem dX6_go_5 : decode cX6_go 5 = .ok (.ifCond .ne 5, 3) := by decide +kernel
theorem dX6_go_8 : decode cX6_go 8 = .ok (.iconst 0, 1) := by decide +kernel
theorem dX6_go_9 : decode cX6_go 9 = .ok (.ireturn, 1) := by decide +kernel
theorem dX6_go_10 : decode cX6_go 10 = .ok (.aload_n 0, 1) := by decide +kernel
theorem dX6_go_11 : decode cX6_go 11 = .ok (.invokevirtual 86, 3) := by decide +kernel
theorem dX6_go_14 : decode cX6_go 14 = .ok (.aload_n 0, 1) := by decide +kernel
theorem dX6_go_15 : decode cX6_go 15 = .ok (.getfield 65, 3) := by decide +kernel
theorem dX6_go_18 : decode cX6_go 18 = .ok (.iload_n 1, 1) := by decide +kernel
theorem dX6_go_19 : decode cX6_go 19 = .ok (.if_icmp .ge 10, 3) := by decide +kernel
theorem dX6_go_22 : decode cX6_go 22 = .ok (.aload_n 0, 1) := by decide +kernel
theorem dX6_go_23 : decode cX6_go 23 = .ok (.invokevirtual 133, 3) := by decide +kernel
theorem dX6_go_26 : decode cX6_go 26 = .ok (.goto (-12), 3) := by decide +kernel
theorem dX6_go_29 : decode cX6_go 29 = .ok (.iconst 1, 1) := by decide +kernel
theorem dX6_go_30 : decode cX6_go 30 = .ok (.ireturn, 1) := by decide +kernel
set_option maxRecDepth 20000 in
theorem ggX6_far_X6_isThere : GoodIn wsX6_far wsX6_isThere := goodIn_r _ [6, 7, 8, 9, 10, 11, 12, 13, 14, 15, 16, 17, 18, 19, 20, 21, 22, 23, 24, 25, 26, 27, 28, 29, 30, 31] (by decide +kernel) (by decide +kernel)
set_option maxRecDepth 20000 in
theorem gX6_far_X6_isThere : GoodIn wsX6_far (wsV RX6 140 RX6 yX6_isThere wsX6_isThere) := goodIn_app (goodIn_of _ (by decide +kernel)) ggX6_far_X6_isThere
theorem dX6_far_0 : decode cX6_far 0 = .ok (.aload_n 0, 1) := by decide +kernel
theorem dX6_far_1 : decode cX6_far 1 = .ok (.iload_n 1, 1) := by decide +kernel
theorem dX6_far_2 : decode cX6_far 2 = .ok (.invokevirtual 140, 3) := by decide +kernel
theorem dX6_far_5 : decode cX6_far 5 = .ok (.ifCond .eq 12, 3) := by decide +kernel
theorem dX6_far_8 : decode cX6_far 8 = .ok (.iload_n 1, 1) := by decide +kernel
theorem dX6_far_9 : decode cX6_far 9 = .ok (.aload_n 0, 1) := by decide +kernel
theorem dX6_far_10 : decode cX6_far 10 = .ok (.getfield 41, 3) := by decide +kernel
theorem dX6_far_13 : decode cX6_far 13 = .ok (.irem, 1) := by decide +kernel
theorem dX6_far_14 : decode cX6_far 14 = .ok (.goto 4, 3) := by decide +kernel
theorem dX6_far_17 : decode cX6_far 17 = .ok (.iconst (-1), 1) := by decide +kernel
theorem dX6_far_18 : decode cX6_far 18 = .ok (.ireturn, 1) := by decide +kernel
theorem dX6_cut_0 : decode cX6_cut 0 = .ok (.aload_n 0, 1) := by decide +kernel
theorem dX6_cut_1 : decode cX6_cut 1 = .ok (.getfield 45, 3) := by decide +kernel
theorem dX6_cut_4 : decode cX6_cut 4 = .ok (.ifCond .ne 5, 3) := by decide +kernel
theorem dX6_cut_7 : decode cX6_cut 7 = .ok (.iconst (-1), 1) := by decide +kernel
theorem dX6_cut_8 : decode cX6_cut 8 = .ok (.ireturn, 1) := by decide +kernel
theorem dX6_cut_9 : decode cX6_cut 9 = .ok (.aload_n 0, 1) := by decide +kernel
theorem dX6_cut_10 : decode cX6_cut 10 = .ok (.aload_n 0, 1) := by decide +kernel
theorem dX6_cut_11 : decode cX6_cut 11 = .ok (.getfield 65, 3) := by decide +kernel
theorem dX6_cut_14 : decode cX6_cut 14 = .ok (.putfield 71, 3) := by decide +kernel
theorem dX6_cut_17 : decode cX6_cut 17 = .ok (.aload_n 0, 1) := by decide +kernel
theorem dX6_cut_18 : decode cX6_cut 18 = .ok (.aload_n 0, 1) := by decide +kernel
theorem dX6_cut_19 : decode cX6_cut 19 = .ok (.getfield 68, 3) := by decide +kernel
theorem dX6_cut_22 : decode cX6_cut 22 = .ok (.putfield 74, 3) := by decide +kernel
theorem dX6_cut_25 : decode cX6_cut 25 = .ok (.aload_n 0, 1) := by decide +kernel
theorem dX6_cut_26 : decode cX6_cut 26 = .ok (.aload_n 0, 1) := by decide +kernel
theorem dX6_cut_27 : decode cX6_cut 27 = .ok (.getfield 65, 3) := by decide +kernel
theorem dX6_cut_30 : decode cX6_cut 30 = .ok (.aload_n 0, 1) := by decide +kernel
theorem dX6_cut_31 : decode cX6_cut 31 = .ok (.getfield 41, 3) := by decide +kernel
theorem dX6_cut_34 : decode cX6_cut 34 = .ok (.idiv, 1) := by decide +kernel
theorem dX6_cut_35 : decode cX6_cut 35 = .ok (.iconst 1, 1) := by decide +kernel
theorem dX6_cut_36 : decode cX6_cut 36 = .ok (.iadd, 1) := by decide +kernel
theorem dX6_cut_37 : decode cX6_cut 37 = .ok (.putfield 77, 3) := by decide +kernel
theorem dX6_cut_40 : decode cX6_cut 40 = .ok (.aload_n 0, 1) := by decide +kernel
theorem dX6_cut_41 : decode cX6_cut 41 = .ok (.getfield 74, 3) := by decide +kernel
theorem dX6_cut_44 : decode cX6_cut 44 = .ok (.ireturn, 1) := by decide +kernel
set_option maxRecDepth 20000 in
theorem ggX6_record_X6_allPages : GoodIn wsX6_record wsX6_allPages := goodIn_r _ [12, 5, 13, 14, 15, 16, 17, 18, 19, 20, 21, 22, 23, 24, 25, 26, 27, 28, 29, 30, 31, 32, 33, 34, 35, 36] (by decide +kernel) (by decide +kernel)
set_option maxRecDepth 20000 in
theorem gX6_record_X6_allPages : GoodIn wsX6_record (wsV RX6 120 RX6 yX6_allPages wsX6_allPages) := goodIn_app (goodIn_of _ (by decide +kernel)) ggX6_record_X6_allPages
theorem dX6_record_0 : decode cX6_record 0 = .ok (.aload_n 0, 1) := by decide +kernel
theorem dX6_record_1 : decode cX6_record 1 = .ok (.getfield 45, 3) := by decide +kernel
theorem dX6_record_4 : decode cX6_record 4 = .ok (.ifCond .ne 5, 3) := by decide +kernel
theorem dX6_record_7 : decode cX6_record 7 = .ok (.iconst (-1), 1) := by decide +kernel
theorem dX6_record_8 : decode cX6_record 8 = .ok (.ireturn, 1) := by decide +kernel
theorem dX6_record_9 : decode cX6_record 9 = .ok (.iload_n 1, 1) := by decide +kernel
theorem dX6_record_10 : decode cX6_record 10 = .ok (.tableswitch 85 0 6 #[42, 47, 52, 57, 62, 67, 72], 42) := by decide +kernel
theorem dX6_record_52 : decode cX6_record 52 = .ok (.aload_n 0, 1) := by decide +kernel
theorem dX6_record_53 : decode cX6_record 53 = .ok (.getfield 65, 3) := by decide +kernel
theorem dX6_record_56 : decode cX6_record 56 = .ok (.ireturn, 1) := by decide +kernel
theorem dX6_record_57 : decode cX6_record 57 = .ok (.aload_n 0, 1) := by decide +kernel
theorem dX6_record_58 : decode cX6_record 58 = .ok (.getfield 71, 3) := by decide +kernel
theorem dX6_record_61 : decode cX6_record 61 = .ok (.ireturn, 1) := by decide +kernel
theorem dX6_record_62 : decode cX6_record 62 = .ok (.aload_n 0, 1) := by decide +kernel
theorem dX6_record_63 : decode cX6_record 63 = .ok (.getfield 74, 3) := by decide +kernel
theorem dX6_record_66 : decode cX6_record 66 = .ok (.ireturn, 1) := by decide +kernel
theorem dX6_record_67 : decode cX6_record 67 = .ok (.aload_n 0, 1) := by decide +kernel
theorem dX6_record_68 : decode cX6_record 68 = .ok (.getfield 77, 3) := by decide +kernel
theorem dX6_record_71 : decode cX6_record 71 = .ok (.ireturn, 1) := by decide +kernel
theorem dX6_record_72 : decode cX6_record 72 = .ok (.aload_n 0, 1) := by decide +kernel
theorem dX6_record_73 : decode cX6_record 73 = .ok (.invokevirtual 120, 3) := by decide +kernel
theorem dX6_record_76 : decode cX6_record 76 = .ok (.ireturn, 1) := by decide +kernel
theorem dX6_record_77 : decode cX6_record 77 = .ok (.aload_n 0, 1) := by decide +kernel
theorem dX6_record_78 : decode cX6_record 78 = .ok (.getfield 80, 3) := by decide +kernel
theorem dX6_record_81 : decode cX6_record 81 = .ok (.ireturn, 1) := by decide +kernel
theorem dX6_record_82 : decode cX6_record 82 = .ok (.aload_n 0, 1) := by decide +kernel
theorem dX6_record_83 : decode cX6_record 83 = .ok (.getfield 83, 3) := by decide +kernel
theorem dX6_record_86 : decode cX6_record 86 = .ok (.ifCond .eq 7, 3) := by decide +kernel
theorem dX6_record_89 : decode cX6_record 89 = .ok (.iconst 1, 1) := by decide +kernel
theorem dX6_record_90 : decode cX6_record 90 = .ok (.goto 4, 3) := by decide +kernel
theorem dX6_record_93 : decode cX6_record 93 = .ok (.iconst 0, 1) := by decide +kernel
theorem dX6_record_94 : decode cX6_record 94 = .ok (.ireturn, 1) := by decide +kernel
theorem dX6_record_95 : decode cX6_record 95 = .ok (.iconst (-1), 1) := by decide +kernel
theorem dX6_record_96 : decode cX6_record 96 = .ok (.ireturn, 1) := by decide +kernel
theorem dX6_pages_0 : decode cX6_pages 0 = .ok (.aload_n 0, 1) := by decide +kernel
theorem dX6_pages_1 : decode cX6_pages 1 = .ok (.getfield 45, 3) := by decide +kernel
theorem dX6_pages_4 : decode cX6_pages 4 = .ok (.ifCond .eq 24, 3) := by decide +kernel
theorem dX6_pages_7 : decode cX6_pages 7 = .ok (.iload_n 1, 1) := by decide +kernel
theorem dX6_pages_8 : decode cX6_pages 8 = .ok (.ifCond .lt 20, 3) := by decide +kernel
theorem dX6_pages_11 : decode cX6_pages 11 = .ok (.iload_n 1, 1) := by decide +kernel
theorem dX6_pages_12 : decode cX6_pages 12 = .ok (.aload_n 0, 1) := by decide +kernel
theorem dX6_pages_13 : decode cX6_pages 13 = .ok (.getfield 77, 3) := by decide +kernel
theorem dX6_pages_16 : decode cX6_pages 16 = .ok (.if_icmp .ge 12, 3) := by decide +kernel
theorem dX6_pages_19 : decode cX6_pages 19 = .ok (.aload_n 0, 1) := by decide +kernel
theorem dX6_pages_20 : decode cX6_pages 20 = .ok (.getfield 31, 3) := by decide +kernel
theorem dX6_pages_23 : decode cX6_pages 23 = .ok (.iload_n 1, 1) := by decide +kernel
theorem dX6_pages_24 : decode cX6_pages 24 = .ok (.iaload, 1) := by decide +kernel
theorem dX6_pages_25 : decode cX6_pages 25 = .ok (.goto 4, 3) := by decide +kernel
theorem dX6_pages_28 : decode cX6_pages 28 = .ok (.iconst (-1), 1) := by decide +kernel
theorem dX6_pages_29 : decode cX6_pages 29 = .ok (.ireturn, 1) := by decide +kernel
theorem dX6_log_0 : decode cX6_log 0 = .ok (.aload_n 0, 1) := by decide +kernel
theorem dX6_log_1 : decode cX6_log 1 = .ok (.getfield 45, 3) := by decide +kernel
theorem dX6_log_4 : decode cX6_log 4 = .ok (.ifCond .eq 15, 3) := by decide +kernel
theorem dX6_log_7 : decode cX6_log 7 = .ok (.iload_n 1, 1) := by decide +kernel
theorem dX6_log_8 : decode cX6_log 8 = .ok (.ifCond .lt 11, 3) := by decide +kernel
theorem dX6_log_11 : decode cX6_log 11 = .ok (.iload_n 1, 1) := by decide +kernel
theorem dX6_log_12 : decode cX6_log 12 = .ok (.aload_n 0, 1) := by decide +kernel
theorem dX6_log_13 : decode cX6_log 13 = .ok (.getfield 74, 3) := by decide +kernel
theorem dX6_log_16 : decode cX6_log 16 = .ok (.if_icmp .lt 5, 3) := by decide +kernel
theorem dX6_log_19 : decode cX6_log 19 = .ok (.iconst (-1), 1) := by decide +kernel
theorem dX6_log_20 : decode cX6_log 20 = .ok (.ireturn, 1) := by decide +kernel
theorem dX6_log_21 : decode cX6_log 21 = .ok (.iload_n 2, 1) := by decide +kernel
theorem dX6_log_22 : decode cX6_log 22 = .ok (.ifCond .ne 12, 3) := by decide +kernel
theorem dX6_log_25 : decode cX6_log 25 = .ok (.aload_n 0, 1) := by decide +kernel
theorem dX6_log_26 : decode cX6_log 26 = .ok (.getfield 22, 3) := by decide +kernel
theorem dX6_log_29 : decode cX6_log 29 = .ok (.iload_n 1, 1) := by decide +kernel
theorem dX6_log_30 : decode cX6_log 30 = .ok (.iaload, 1) := by decide +kernel
theorem dX6_log_31 : decode cX6_log 31 = .ok (.goto 32, 3) := by decide +kernel
theorem dX6_log_34 : decode cX6_log 34 = .ok (.iload_n 2, 1) := by decide +kernel
theorem dX6_log_35 : decode cX6_log 35 = .ok (.iconst 1, 1) := by decide +kernel
theorem dX6_log_36 : decode cX6_log 36 = .ok (.if_icmp .ne 12, 3) := by decide +kernel
theorem dX6_log_39 : decode cX6_log 39 = .ok (.aload_n 0, 1) := by decide +kernel
theorem dX6_log_40 : decode cX6_log 40 = .ok (.getfield 25, 3) := by decide +kernel
theorem dX6_log_43 : decode cX6_log 43 = .ok (.iload_n 1, 1) := by decide +kernel
theorem dX6_log_44 : decode cX6_log 44 = .ok (.iaload, 1) := by decide +kernel
theorem dX6_log_45 : decode cX6_log 45 = .ok (.goto 18, 3) := by decide +kernel
theorem dX6_log_48 : decode cX6_log 48 = .ok (.iload_n 2, 1) := by decide +kernel
theorem dX6_log_49 : decode cX6_log 49 = .ok (.iconst 2, 1) := by decide +kernel
theorem dX6_log_50 : decode cX6_log 50 = .ok (.if_icmp .ne 12, 3) := by decide +kernel
theorem dX6_log_53 : decode cX6_log 53 = .ok (.aload_n 0, 1) := by decide +kernel
theorem dX6_log_54 : decode cX6_log 54 = .ok (.getfield 28, 3) := by decide +kernel
theorem dX6_log_57 : decode cX6_log 57 = .ok (.iload_n 1, 1) := by decide +kernel
theorem dX6_log_58 : decode cX6_log 58 = .ok (.iaload, 1) := by decide +kernel
theorem dX6_log_59 : decode cX6_log 59 = .ok (.goto 4, 3) := by decide +kernel
theorem dX6_log_62 : decode cX6_log 62 = .ok (.iconst (-1), 1) := by decide +kernel
theorem dX6_log_63 : decode cX6_log 63 = .ok (.ireturn, 1) := by decide +kernel
theorem dX6_register_0 : decode cX6_register 0 = .ok (.iload_n 1, 1) := by decide +kernel
theorem dX6_register_1 : decode cX6_register 1 = .ok (.ifCond .lt 16, 3) := by decide +kernel
theorem dX6_register_4 : decode cX6_register 4 = .ok (.iload_n 1, 1) := by decide +kernel
theorem dX6_register_5 : decode cX6_register 5 = .ok (.bipush 8, 2) := by decide +kernel
theorem dX6_register_7 : decode cX6_register 7 = .ok (.if_icmp .ge 10, 3) := by decide +kernel
theorem dX6_register_10 : decode cX6_register 10 = .ok (.aload_n 0, 1) := by decide +kernel
theorem dX6_register_11 : decode cX6_register 11 = .ok (.getfield 16, 3) := by decide +kernel
theorem dX6_register_14 : decode cX6_register 14 = .ok (.iload_n 1, 1) := by decide +kernel
theorem dX6_register_15 : decode cX6_register 15 = .ok (.iaload, 1) := by decide +kernel
theorem dX6_register_16 : decode cX6_register 16 = .ok (.ireturn, 1) := by decide +kernel
theorem dX6_register_17 : decode cX6_register 17 = .ok (.iload_n 1, 1) := by decide +kernel
theorem dX6_register_18 : decode cX6_register 18 = .ok (.bipush 8, 2) := by decide +kernel
theorem dX6_register_20 : decode cX6_register 20 = .ok (.if_icmp .ne 10, 3) := by decide +kernel
theorem dX6_register_23 : decode cX6_register 23 = .ok (.aload_n 0, 1) := by decide +kernel
theorem dX6_register_24 : decode cX6_register 24 = .ok (.getfield 53, 3) := by decide +kernel
theorem dX6_register_27 : decode cX6_register 27 = .ok (.goto 34, 3) := by decide +kernel
theorem dX6_register_30 : decode cX6_register 30 = .ok (.iload_n 1, 1) := by decide +kernel
theorem dX6_register_31 : decode cX6_register 31 = .ok (.bipush 9, 2) := by decide +kernel
theorem dX6_register_33 : decode cX6_register 33 = .ok (.if_icmp .ne 10, 3) := by decide +kernel
theorem dX6_register_36 : decode cX6_register 36 = .ok (.aload_n 0, 1) := by decide +kernel
theorem dX6_register_37 : decode cX6_register 37 = .ok (.getfield 56, 3) := by decide +kernel
theorem dX6_register_40 : decode cX6_register 40 = .ok (.goto 21, 3) := by decide +kernel
theorem dX6_register_43 : decode cX6_register 43 = .ok (.iload_n 1, 1) := by decide +kernel
theorem dX6_register_44 : decode cX6_register 44 = .ok (.bipush 10, 2) := by decide +kernel
theorem dX6_register_46 : decode cX6_register 46 = .ok (.if_icmp .ne 14, 3) := by decide +kernel
theorem dX6_register_49 : decode cX6_register 49 = .ok (.aload_n 0, 1) := by decide +kernel
theorem dX6_register_50 : decode cX6_register 50 = .ok (.getfield 59, 3) := by decide +kernel
theorem dX6_register_53 : decode cX6_register 53 = .ok (.ifCond .eq 7, 3) := by decide +kernel
theorem dX6_register_56 : decode cX6_register 56 = .ok (.iconst 1, 1) := by decide +kernel
theorem dX6_register_57 : decode cX6_register 57 = .ok (.goto 4, 3) := by decide +kernel
theorem dX6_register_60 : decode cX6_register 60 = .ok (.iconst 0, 1) := by decide +kernel
theorem dX6_register_61 : decode cX6_register 61 = .ok (.ireturn, 1) := by decide +kernel
set_option maxRecDepth 20000 in
theorem ggX6_word_X6_isPlace : GoodIn wsX6_word wsX6_isPlace := goodIn_r _ [5] (by decide +kernel) (by decide +kernel)
set_option maxRecDepth 20000 in
theorem gX6_word_X6_isPlace : GoodIn wsX6_word (va_wsS RX6 49 yX6_isPlace wsX6_isPlace) := goodIn_app (goodIn_of _ (by decide +kernel)) ggX6_word_X6_isPlace
theorem dX6_word_0 : decode cX6_word 0 = .ok (.iload_n 1, 1) := by decide +kernel
theorem dX6_word_1 : decode cX6_word 1 = .ok (.invokestatic 49, 3) := by decide +kernel
theorem dX6_word_4 : decode cX6_word 4 = .ok (.ifCond .eq 12, 3) := by decide +kernel
theorem dX6_word_7 : decode cX6_word 7 = .ok (.aload_n 0, 1) := by decide +kernel
theorem dX6_word_8 : decode cX6_word 8 = .ok (.getfield 13, 3) := by decide +kernel
theorem dX6_word_11 : decode cX6_word 11 = .ok (.iload_n 1, 1) := by decide +kernel
theorem dX6_word_12 : decode cX6_word 12 = .ok (.iaload, 1) := by decide +kernel
theorem dX6_word_13 : decode cX6_word 13 = .ok (.goto 4, 3) := by decide +kernel
theorem dX6_word_16 : decode cX6_word 16 = .ok (.iconst 0, 1) := by decide +kernel
theorem dX6_word_17 : decode cX6_word 17 = .ok (.ireturn, 1) := by decide +kernel
theorem dX6_outs_0 : decode cX6_outs 0 = .ok (.aload_n 0, 1) := by decide +kernel
theorem dX6_outs_1 : decode cX6_outs 1 = .ok (.getfield 62, 3) := by decide +kernel
theorem dX6_outs_4 : decode cX6_outs 4 = .ok (.ireturn, 1) := by decide +kernel
theorem dX6_out_0 : decode cX6_out 0 = .ok (.iload_n 1, 1) := by decide +kernel
theorem dX6_out_1 : decode cX6_out 1 = .ok (.ifCond .lt 26, 3) := by decide +kernel
theorem dX6_out_4 : decode cX6_out 4 = .ok (.iload_n 1, 1) := by decide +kernel
theorem dX6_out_5 : decode cX6_out 5 = .ok (.aload_n 0, 1) := by decide +kernel
theorem dX6_out_6 : decode cX6_out 6 = .ok (.getfield 62, 3) := by decide +kernel
theorem dX6_out_9 : decode cX6_out 9 = .ok (.if_icmp .ge 18, 3) := by decide +kernel
theorem dX6_out_12 : decode cX6_out 12 = .ok (.iload_n 1, 1) := by decide +kernel
theorem dX6_out_13 : decode cX6_out 13 = .ok (.bipush 64, 2) := by decide +kernel
theorem dX6_out_15 : decode cX6_out 15 = .ok (.if_icmp .ge 12, 3) := by decide +kernel
theorem dX6_out_18 : decode cX6_out 18 = .ok (.aload_n 0, 1) := by decide +kernel
theorem dX6_out_19 : decode cX6_out 19 = .ok (.getfield 19, 3) := by decide +kernel
theorem dX6_out_22 : decode cX6_out 22 = .ok (.iload_n 1, 1) := by decide +kernel
theorem dX6_out_23 : decode cX6_out 23 = .ok (.iaload, 1) := by decide +kernel
theorem dX6_out_24 : decode cX6_out 24 = .ok (.goto 4, 3) := by decide +kernel
theorem dX6_out_27 : decode cX6_out 27 = .ok (.iconst 0, 1) := by decide +kernel
theorem dX6_out_28 : decode cX6_out 28 = .ok (.ireturn, 1) := by decide +kernel
theorem dJ6_bitCount_0f7a4_0 : decode cJ6_bitCount_0f7a4 0 = .ok (.iload_n 0, 1) := by decide +kernel
theorem dJ6_bitCount_0f7a4_1 : decode cJ6_bitCount_0f7a4 1 = .ok (.iload_n 0, 1) := by decide +kernel
theorem dJ6_bitCount_0f7a4_2 : decode cJ6_bitCount_0f7a4 2 = .ok (.iconst 1, 1) := by decide +kernel
theorem dJ6_bitCount_0f7a4_3 : decode cJ6_bitCount_0f7a4 3 = .ok (.iushr, 1) := by decide +kernel
theorem dJ6_bitCount_0f7a4_4 : decode cJ6_bitCount_0f7a4 4 = .ok (.ldc_w 265, 3) := by decide +kernel
theorem dJ6_bitCount_0f7a4_7 : decode cJ6_bitCount_0f7a4 7 = .ok (.iand, 1) := by decide +kernel
theorem dJ6_bitCount_0f7a4_8 : decode cJ6_bitCount_0f7a4 8 = .ok (.isub, 1) := by decide +kernel
theorem dJ6_bitCount_0f7a4_9 : decode cJ6_bitCount_0f7a4 9 = .ok (.istore_n 0, 1) := by decide +kernel
theorem dJ6_bitCount_0f7a4_10 : decode cJ6_bitCount_0f7a4 10 = .ok (.iload_n 0, 1) := by decide +kernel
theorem dJ6_bitCount_0f7a4_11 : decode cJ6_bitCount_0f7a4 11 = .ok (.ldc_w 266, 3) := by decide +kernel
theorem dJ6_bitCount_0f7a4_14 : decode cJ6_bitCount_0f7a4 14 = .ok (.iand, 1) := by decide +kernel
theorem dJ6_bitCount_0f7a4_15 : decode cJ6_bitCount_0f7a4 15 = .ok (.iload_n 0, 1) := by decide +kernel
theorem dJ6_bitCount_0f7a4_16 : decode cJ6_bitCount_0f7a4 16 = .ok (.iconst 2, 1) := by decide +kernel
theorem dJ6_bitCount_0f7a4_17 : decode cJ6_bitCount_0f7a4 17 = .ok (.iushr, 1) := by decide +kernel
theorem dJ6_bitCount_0f7a4_18 : decode cJ6_bitCount_0f7a4 18 = .ok (.ldc_w 266, 3) := by decide +kernel
theorem dJ6_bitCount_0f7a4_21 : decode cJ6_bitCount_0f7a4 21 = .ok (.iand, 1) := by decide +kernel
theorem dJ6_bitCount_0f7a4_22 : decode cJ6_bitCount_0f7a4 22 = .ok (.iadd, 1) := by decide +kernel
theorem dJ6_bitCount_0f7a4_23 : decode cJ6_bitCount_0f7a4 23 = .ok (.istore_n 0, 1) := by decide +kernel
theorem dJ6_bitCount_0f7a4_24 : decode cJ6_bitCount_0f7a4 24 = .ok (.iload_n 0, 1) := by decide +kernel
theorem dJ6_bitCount_0f7a4_25 : decode cJ6_bitCount_0f7a4 25 = .ok (.iload_n 0, 1) := by decide +kernel
theorem dJ6_bitCount_0f7a4_26 : decode cJ6_bitCount_0f7a4 26 = .ok (.iconst 4, 1) := by decide +kernel
theorem dJ6_bitCount_0f7a4_27 : decode cJ6_bitCount_0f7a4 27 = .ok (.iushr, 1) := by decide +kernel
theorem dJ6_bitCount_0f7a4_28 : decode cJ6_bitCount_0f7a4 28 = .ok (.iadd, 1) := by decide +kernel
theorem dJ6_bitCount_0f7a4_29 : decode cJ6_bitCount_0f7a4 29 = .ok (.ldc_w 267, 3) := by decide +kernel
theorem dJ6_bitCount_0f7a4_32 : decode cJ6_bitCount_0f7a4 32 = .ok (.iand, 1) := by decide +kernel
theorem dJ6_bitCount_0f7a4_33 : decode cJ6_bitCount_0f7a4 33 = .ok (.istore_n 0, 1) := by decide +kernel
theorem dJ6_bitCount_0f7a4_34 : decode cJ6_bitCount_0f7a4 34 = .ok (.iload_n 0, 1) := by decide +kernel
theorem dJ6_bitCount_0f7a4_35 : decode cJ6_bitCount_0f7a4 35 = .ok (.iload_n 0, 1) := by decide +kernel
theorem dJ6_bitCount_0f7a4_36 : decode cJ6_bitCount_0f7a4 36 = .ok (.bipush 8, 2) := by decide +kernel
theorem dJ6_bitCount_0f7a4_38 : decode cJ6_bitCount_0f7a4 38 = .ok (.iushr, 1) := by decide +kernel
theorem dJ6_bitCount_0f7a4_39 : decode cJ6_bitCount_0f7a4 39 = .ok (.iadd, 1) := by decide +kernel
theorem dJ6_bitCount_0f7a4_40 : decode cJ6_bitCount_0f7a4 40 = .ok (.istore_n 0, 1) := by decide +kernel
theorem dJ6_bitCount_0f7a4_41 : decode cJ6_bitCount_0f7a4 41 = .ok (.iload_n 0, 1) := by decide +kernel
theorem dJ6_bitCount_0f7a4_42 : decode cJ6_bitCount_0f7a4 42 = .ok (.iload_n 0, 1) := by decide +kernel
theorem dJ6_bitCount_0f7a4_43 : decode cJ6_bitCount_0f7a4 43 = .ok (.bipush 16, 2) := by decide +kernel
theorem dJ6_bitCount_0f7a4_45 : decode cJ6_bitCount_0f7a4 45 = .ok (.iushr, 1) := by decide +kernel
theorem dJ6_bitCount_0f7a4_46 : decode cJ6_bitCount_0f7a4 46 = .ok (.iadd, 1) := by decide +kernel
theorem dJ6_bitCount_0f7a4_47 : decode cJ6_bitCount_0f7a4 47 = .ok (.istore_n 0, 1) := by decide +kernel
theorem dJ6_bitCount_0f7a4_48 : decode cJ6_bitCount_0f7a4 48 = .ok (.iload_n 0, 1) := by decide +kernel
theorem dJ6_bitCount_0f7a4_49 : decode cJ6_bitCount_0f7a4 49 = .ok (.bipush 63, 2) := by decide +kernel
theorem dJ6_bitCount_0f7a4_51 : decode cJ6_bitCount_0f7a4 51 = .ok (.iand, 1) := by decide +kernel
theorem dJ6_bitCount_0f7a4_52 : decode cJ6_bitCount_0f7a4 52 = .ok (.ireturn, 1) := by decide +kernel
theorem dJ9_max_7cf53_0 : decode cJ9_max_7cf53 0 = .ok (.iload_n 0, 1) := by decide +kernel
theorem dJ9_max_7cf53_1 : decode cJ9_max_7cf53 1 = .ok (.iload_n 1, 1) := by decide +kernel
theorem dJ9_max_7cf53_2 : decode cJ9_max_7cf53 2 = .ok (.if_icmp .lt 7, 3) := by decide +kernel
theorem dJ9_max_7cf53_5 : decode cJ9_max_7cf53 5 = .ok (.iload_n 0, 1) := by decide +kernel
theorem dJ9_max_7cf53_6 : decode cJ9_max_7cf53 6 = .ok (.goto 4, 3) := by decide +kernel
theorem dJ9_max_7cf53_9 : decode cJ9_max_7cf53 9 = .ok (.iload_n 1, 1) := by decide +kernel
theorem dJ9_max_7cf53_10 : decode cJ9_max_7cf53 10 = .ok (.ireturn, 1) := by decide +kernel
theorem dJ9_min_7cf53_0 : decode cJ9_min_7cf53 0 = .ok (.iload_n 0, 1) := by decide +kernel
theorem dJ9_min_7cf53_1 : decode cJ9_min_7cf53 1 = .ok (.iload_n 1, 1) := by decide +kernel
theorem dJ9_min_7cf53_2 : decode cJ9_min_7cf53 2 = .ok (.if_icmp .gt 7, 3) := by decide +kernel
theorem dJ9_min_7cf53_5 : decode cJ9_min_7cf53 5 = .ok (.iload_n 0, 1) := by decide +kernel
theorem dJ9_min_7cf53_6 : decode cJ9_min_7cf53 6 = .ok (.goto 4, 3) := by decide +kernel
theorem dJ9_min_7cf53_9 : decode cJ9_min_7cf53 9 = .ok (.iload_n 1, 1) := by decide +kernel
theorem dJ9_min_7cf53_10 : decode cJ9_min_7cf53 10 = .ok (.ireturn, 1) := by decide +kernel
theorem dJ7_fill_53178_0 : decode cJ7_fill_53178 0 = .ok (.iconst 0, 1) := by decide +kernel
theorem dJ7_fill_53178_1 : decode cJ7_fill_53178 1 = .ok (.istore_n 2, 1) := by decide +kernel
theorem dJ7_fill_53178_2 : decode cJ7_fill_53178 2 = .ok (.aload_n 0, 1) := by decide +kernel
theorem dJ7_fill_53178_3 : decode cJ7_fill_53178 3 = .ok (.arraylength, 1) := by decide +kernel
theorem dJ7_fill_53178_4 : decode cJ7_fill_53178 4 = .ok (.istore_n 3, 1) := by decide +kernel
theorem dJ7_fill_53178_5 : decode cJ7_fill_53178 5 = .ok (.iload_n 2, 1) := by decide +kernel
theorem dJ7_fill_53178_6 : decode cJ7_fill_53178 6 = .ok (.iload_n 3, 1) := by decide +kernel
theorem dJ7_fill_53178_7 : decode cJ7_fill_53178 7 = .ok (.if_icmp .ge 13, 3) := by decide +kernel
theorem dJ7_fill_53178_10 : decode cJ7_fill_53178 10 = .ok (.aload_n 0, 1) := by decide +kernel
theorem dJ7_fill_53178_11 : decode cJ7_fill_53178 11 = .ok (.iload_n 2, 1) := by decide +kernel
theorem dJ7_fill_53178_12 : decode cJ7_fill_53178 12 = .ok (.iload_n 1, 1) := by decide +kernel
theorem dJ7_fill_53178_13 : decode cJ7_fill_53178 13 = .ok (.iastore, 1) := by decide +kernel
theorem dJ7_fill_53178_14 : decode cJ7_fill_53178 14 = .ok (.iinc 2 1, 3) := by decide +kernel
theorem dJ7_fill_53178_17 : decode cJ7_fill_53178 17 = .ok (.goto (-12), 3) := by decide +kernel
theorem dJ7_fill_53178_20 : decode cJ7_fill_53178 20 = .ok (.return_, 1) := by decide +kernel
end
section
/-! THE X LAYER: a world of n cells at the places a 0 .. a (n - 1); their contents are read off an abstract heap h (cell, slot) by cf; XJ: the machine at pc, with this abstract heap, these locals, this stack -/
section XL
abbrev hp : Type := Nat → Nat → Int32
def u2 (h : hp) (i k : Nat) (v : Int32) : hp := fun x y => if x = i then (if y = k then v else h x y) else h x y
theorem u2_row (h : hp) (i k : Nat) (v : Int32) : u2 h i k v = va_up h i (upd (h i) k v) := by
  funext x y
  by_cases hx : x = i
  · subst hx
    by_cases hy : y = k <;> simp [u2, va_up, upd, hy]
  · simp [u2, va_up, hx]
def xw (n : Nat) (a : Nat → Nat) (cf : Nat → (Nat → Int32) → va_E) (h : hp) : va_W := (List.range n).map (fun i => (a i, cf i (h i)))
def xA (n : Nat) (a : Nat → Nat) : Nat → Prop := fun q => ∃ i, i < n ∧ a i = q
def xD (n : Nat) (a : Nat → Nat) : Prop := ∀ i j, i < n → j < n → a i = a j → i = j
theorem xw_at {n : Nat} {a : Nat → Nat} {cf : Nat → (Nat → Int32) → va_E} {h : hp} {i : Nat} (hi : i < n) : (xw n a cf h)[i]? = some (a i, cf i (h i)) := by
  simp [xw, hi]
theorem xw_e {n : Nat} {a : Nat → Nat} {cf : Nat → (Nat → Int32) → va_E} {h : hp} {i : Nat} {e : va_E} (hi : i < n) (he : cf i (h i) = e) : (xw n a cf h)[i]? = some (a i, e) := by
  rw [xw_at hi, he]
theorem xw_of {n : Nat} {a : Nat → Nat} {cf : Nat → (Nat → Int32) → va_E} {h : hp} {k : Nat} {q : Nat × va_E} (hk : (xw n a cf h)[k]? = some q) : k < n ∧ q = (a k, cf k (h k)) := by
  by_cases hn : k < n
  · rw [xw_at hn] at hk
    exact ⟨hn, (Option.some.inj hk).symm⟩
  · rw [List.getElem?_eq_none (by simp [xw]; omega)] at hk
    cases hk
theorem xw_set {n : Nat} {a : Nat → Nat} {cf : Nat → (Nat → Int32) → va_E} {h : hp} {i : Nat} {r : Nat → Int32} {e : va_E} (hi : i < n) (he : cf i r = e) : (xw n a cf h).set i (a i, e) = xw n a cf (va_up h i r) := by
  subst he
  apply List.ext_getElem?
  intro j
  by_cases hj : j = i
  · subst hj
    rw [List.getElem?_set_self (by simp [xw, hi]), xw_at hi]
    simp [va_up]
  · rw [List.getElem?_set_ne (Ne.symm hj)]
    by_cases hn : j < n
    · rw [xw_at hn, xw_at hn]
      simp [va_up, hj]
    · rw [List.getElem?_eq_none (by simp [xw]; omega), List.getElem?_eq_none (by simp [xw]; omega)]
theorem xD_D {n : Nat} {a : Nat → Nat} {cf : Nat → (Nat → Int32) → va_E} {h : hp} (hd : xD n a) : va_D (xA n a) (xw n a cf h) := by
  refine ⟨fun i j p q h1 h2 h3 => ?_, fun k q hk => ?_⟩
  · obtain ⟨a1, rfl⟩ := xw_of h1
    obtain ⟨b1, rfl⟩ := xw_of h2
    exact hd i j a1 b1 h3
  · obtain ⟨a1, rfl⟩ := xw_of hk
    exact ⟨k, a1, rfl⟩
abbrev xT : Type := List (ClassId × FieldType) × List (String × Nat × MethodName × String)
def XK (D : va_G) (cl : List vw_C) (tys : xT) (U : State) : Prop := va_K D cl tys.1 U ∧ ∀ q ∈ tys.2, va_Nw (.methodLinkNest q.1 q.2.1 q.2.2.1 q.2.2.2) U
theorem XK.warm {D : va_G} {cl : List vw_C} {tys : xT} {s U : State} (hW : s.WarmedH U.vm) (hK : XK D cl tys s) : XK D cl tys U := ⟨va_K.moved hW.alike hK.1, fun q hq => va_Nw.warmM hW (hK.2 q hq)⟩
theorem XK.call {D : va_G} {cl : List vw_C} {tys : xT} {U V : State} (hv : U.vm = V.vm) (hK : XK D cl tys U) : XK D cl tys V := ⟨va_K.moved (by rw [hv]; exact Vm.Alike.refl _) hK.1, fun q hq => va_Nw.same rfl hv (hK.2 q hq)⟩
/-- what a method's walk stands on -/
def XC (p : Program) (s : State) (m : MethodId) (args : Array Value) (c : Code) (cc : ByteArray) (Ts : List Cond) (own : String) (D : va_G) (cl : List vw_C) (tys : xT) (n : Nat) (a : Nat → Nat) (nL : Nat) : Prop :=
  p.tables.exec = Jvm.exec ∧ c.code = cc ∧ (∀ w ∈ Ts, w.before args s = true) ∧ s.vm.findClass own = some m.cls ∧ XK D cl tys s ∧ xD n a ∧ c.maxLocals = nL
def XJ (p : Program) (l : Launch) (e : Env) (R : Room) (s : State) (m : MethodId) (args : Array Value) (below : List Frame) (meth : Method) (c : Code) (D : va_G) (cl : List vw_C) (n : Nat) (a : Nat → Nat) (cf : Nat → (Nat → Int32) → va_E) (nL : Nat) (Q : State → Prop) (h : hp) (L : List (Nat × Value)) (stk : List Value) (pc : Nat) : Prop :=
  ∀ (H : Heap) (locs : List Loc) (ls : Array Slot), va_P D cl (xw n a cf h) H → va_S (xA n a) s.heap H locs → lv_has ls nL L → W p l e R s m args below meth c H locs 0 0 Q (F0 m pc ls stk)
/-- guards and joins of the functions that are read off the code -/
def gd {α : Type} (c : Prop) [Decidable c] (x : Option α) : Option α := if c then x else none
theorem gd_some {α : Type} {c : Prop} [Decidable c] {x : Option α} {y : α} (h : gd c x = some y) : c ∧ x = some y := by
  unfold gd at h
  by_cases hc : c
  · rw [if_pos hc] at h; exact ⟨hc, h⟩
  · rw [if_neg hc] at h; cases h
theorem gd_pos {α : Type} {c : Prop} [Decidable c] {x : Option α} (h : c) : gd c x = x := if_pos h
def bR {α : Type} (x : Option Int32) (k : Int32 → Option α) : Option α := x.bind k
theorem bR_some {α : Type} {x : Option Int32} {k : Int32 → Option α} {y : α} (h : bR x k = some y) : ∃ r, x = some r ∧ k r = some y := by
  cases x with
  | none => cases h
  | some r => exact ⟨r, rfl, h⟩
theorem bR_pos {α : Type} {x : Option Int32} {k : Int32 → Option α} {r : Int32} (h : x = some r) : bR x k = k r := by subst h; rfl
def bM {α : Type} (x : Option (Int32 × hp)) (k : Int32 → hp → Option α) : Option α := x.bind (fun q => k q.1 q.2)
theorem bM_some {α : Type} {x : Option (Int32 × hp)} {k : Int32 → hp → Option α} {y : α} (h : bM x k = some y) : ∃ r h1, x = some (r, h1) ∧ k r h1 = some y := by
  cases x with
  | none => cases h
  | some q => exact ⟨q.1, q.2, rfl, h⟩
theorem bM_pos {α : Type} {x : Option (Int32 × hp)} {k : Int32 → hp → Option α} {r : Int32} {h1 : hp} (h : x = some (r, h1)) : bM x k = k r h1 := by subst h; rfl
def bV {α : Type} (x : Option hp) (k : hp → Option α) : Option α := x.bind k
theorem bV_some {α : Type} {x : Option hp} {k : hp → Option α} {y : α} (h : bV x k = some y) : ∃ h1, x = some h1 ∧ k h1 = some y := by
  cases x with
  | none => cases h
  | some q => exact ⟨q, rfl, h⟩
theorem bV_pos {α : Type} {x : Option hp} {k : hp → Option α} {h1 : hp} (h : x = some h1) : bV x k = k h1 := by subst h; rfl
def gl {α β : Type} (x : α) (k : α → β) : β := k x
theorem gl_at {α β : Type} {x : α} {k : α → β} {z : β} (h : gl x k = z) (y : α) (e : y = x) : k y = z := by subst e; exact h
theorem gd_lt {j : Int32} {N : Nat} (h : ¬ (j < 0 ∨ N ≤ j.toNatClampNeg)) : j.toNatClampNeg < N := Nat.not_le.mp fun q => h (Or.inr q)
end XL
section XR
variable {p : Program} {l : Launch} {e : Env} {R : Room} {s : State} {m : MethodId} {args : Array Value} {below : List Frame} {meth : Method} {c : Code} {cc : ByteArray} {Ts : List Cond} {own : String} {D : va_G} {cl : List vw_C} {tys : xT} {n : Nat} {a : Nat → Nat} {cf : Nat → (Nat → Int32) → va_E} {nL : Nat} {Q : State → Prop} {h : hp} {L : List (Nat × Value)} {rest : List Value} {pc : Nat}
theorem xr_iconst (C : XC p s m args c cc Ts own D cl tys n a nL) {k : Int} {v : Int32} (hdg : decode cc pc = .ok (.iconst k, 1)) (hv : Int32.ofInt k = v) (kk : XJ p l e R s m args below meth c D cl n a cf nL Q h L (.int v :: rest) (pc + 1)) : XJ p l e R s m args below meth c D cl n a cf nL Q h L rest pc := fun H locs ls hP hS hl => lv_iconst C.1 C.2.1 hdg hv (kk H locs ls hP hS hl)
theorem xr_bipush (C : XC p s m args c cc Ts own D cl tys n a nL) {k : Int} {v : Int32} (hdg : decode cc pc = .ok (.bipush k, 2)) (hv : (Int8.ofInt k).toInt32 = v) (kk : XJ p l e R s m args below meth c D cl n a cf nL Q h L (.int v :: rest) (pc + 2)) : XJ p l e R s m args below meth c D cl n a cf nL Q h L rest pc := fun H locs ls hP hS hl => lv_bipush C.1 C.2.1 hdg hv (kk H locs ls hP hS hl)
theorem xr_sipush (C : XC p s m args c cc Ts own D cl tys n a nL) {k : Int} {v : Int32} (hdg : decode cc pc = .ok (.sipush k, 3)) (hv : (Int16.ofInt k).toInt32 = v) (kk : XJ p l e R s m args below meth c D cl n a cf nL Q h L (.int v :: rest) (pc + 3)) : XJ p l e R s m args below meth c D cl n a cf nL Q h L rest pc := fun H locs ls hP hS hl => lv_sipush C.1 C.2.1 hdg hv (kk H locs ls hP hS hl)
theorem xr_ldcw (C : XC p s m args c cc Ts own D cl tys n a nL) {index : Nat} {v : Int32} (hdg : decode cc pc = .ok (.ldc_w index, 3)) (hw : Cond.constant own index v ∈ Ts) (kk : XJ p l e R s m args below meth c D cl n a cf nL Q h L (.int v :: rest) (pc + 3)) : XJ p l e R s m args below meth c D cl n a cf nL Q h L rest pc := fun H locs ls hP hS hl => lv_ldcw C.1 C.2.1 C.2.2.2.1 (C.2.2.1 _ hw) hdg (kk H locs ls hP hS hl)
theorem xr_ldc (C : XC p s m args c cc Ts own D cl tys n a nL) {index : Nat} {v : Int32} (hdg : decode cc pc = .ok (.ldc index, 2)) (hw : Cond.constant own index v ∈ Ts) (kk : XJ p l e R s m args below meth c D cl n a cf nL Q h L (.int v :: rest) (pc + 2)) : XJ p l e R s m args below meth c D cl n a cf nL Q h L rest pc := fun H locs ls hP hS hl => lv_ldc C.1 C.2.1 C.2.2.2.1 (C.2.2.1 _ hw) hdg (kk H locs ls hP hS hl)
theorem xr_iload_n (C : XC p s m args c cc Ts own D cl tys n a nL) {k : Fin 4} {i : Nat} {x : Int32} (hdg : decode cc pc = .ok (.iload_n k, 1)) (j : Nat) (hi : (k : Nat) = i) (hv : L[j]? = some (i, .int x)) (kk : XJ p l e R s m args below meth c D cl n a cf nL Q h L (.int x :: rest) (pc + 1)) : XJ p l e R s m args below meth c D cl n a cf nL Q h L rest pc := fun H locs ls hP hS hl => lv_iload_n C.1 C.2.1 hdg hi (lv_at hl j hv) (kk H locs ls hP hS hl)
theorem xr_iload (C : XC p s m args c cc Ts own D cl tys n a nL) {i : Nat} {x : Int32} (hdg : decode cc pc = .ok (.iload i, 2)) (j : Nat) (hv : L[j]? = some (i, .int x)) (kk : XJ p l e R s m args below meth c D cl n a cf nL Q h L (.int x :: rest) (pc + 2)) : XJ p l e R s m args below meth c D cl n a cf nL Q h L rest pc := fun H locs ls hP hS hl => lv_iload C.1 C.2.1 hdg (lv_at hl j hv) (kk H locs ls hP hS hl)
theorem xr_istore_n (C : XC p s m args c cc Ts own D cl tys n a nL) {k : Fin 4} {i : Nat} {x : Int32} (L' : List (Nat × Value)) (hdg : decode cc pc = .ok (.istore_n k, 1)) (hi : (k : Nat) = i) (hn : i < nL) (hL : (i, Value.int x) :: L.filter (fun q => !(q.1 == i) && !(q.1 + 1 == i && q.2.category == 2)) = L') (kk : XJ p l e R s m args below meth c D cl n a cf nL Q h L' rest (pc + 1)) : XJ p l e R s m args below meth c D cl n a cf nL Q h L (.int x :: rest) pc := fun H locs ls hP hS hl => lv_istore_n C.1 C.2.1 hdg hi hl hn hL (fun ls hl => kk H locs ls hP hS hl)
theorem xr_istore (C : XC p s m args c cc Ts own D cl tys n a nL) {i : Nat} {x : Int32} (L' : List (Nat × Value)) (hdg : decode cc pc = .ok (.istore i, 2)) (hn : i < nL) (hL : (i, Value.int x) :: L.filter (fun q => !(q.1 == i) && !(q.1 + 1 == i && q.2.category == 2)) = L') (kk : XJ p l e R s m args below meth c D cl n a cf nL Q h L' rest (pc + 2)) : XJ p l e R s m args below meth c D cl n a cf nL Q h L (.int x :: rest) pc := fun H locs ls hP hS hl => lv_istore C.1 C.2.1 hdg hl hn hL (fun ls hl => kk H locs ls hP hS hl)
theorem xr_aload_n (C : XC p s m args c cc Ts own D cl tys n a nL) {k : Fin 4} {i : Nat} {x : Nat} (hdg : decode cc pc = .ok (.aload_n k, 1)) (j : Nat) (hi : (k : Nat) = i) (hv : L[j]? = some (i, .ref x)) (kk : XJ p l e R s m args below meth c D cl n a cf nL Q h L (.ref x :: rest) (pc + 1)) : XJ p l e R s m args below meth c D cl n a cf nL Q h L rest pc := fun H locs ls hP hS hl => lv_aload_n C.1 C.2.1 hdg hi (lv_at hl j hv) (kk H locs ls hP hS hl)
theorem xr_aload (C : XC p s m args c cc Ts own D cl tys n a nL) {i : Nat} {x : Nat} (hdg : decode cc pc = .ok (.aload i, 2)) (j : Nat) (hv : L[j]? = some (i, .ref x)) (kk : XJ p l e R s m args below meth c D cl n a cf nL Q h L (.ref x :: rest) (pc + 2)) : XJ p l e R s m args below meth c D cl n a cf nL Q h L rest pc := fun H locs ls hP hS hl => lv_aload C.1 C.2.1 hdg (lv_at hl j hv) (kk H locs ls hP hS hl)
theorem xr_astore_n (C : XC p s m args c cc Ts own D cl tys n a nL) {k : Fin 4} {i : Nat} {x : Nat} (L' : List (Nat × Value)) (hdg : decode cc pc = .ok (.astore_n k, 1)) (hi : (k : Nat) = i) (hn : i < nL) (hL : (i, Value.ref x) :: L.filter (fun q => !(q.1 == i) && !(q.1 + 1 == i && q.2.category == 2)) = L') (kk : XJ p l e R s m args below meth c D cl n a cf nL Q h L' rest (pc + 1)) : XJ p l e R s m args below meth c D cl n a cf nL Q h L (.ref x :: rest) pc := fun H locs ls hP hS hl => lv_astore_n C.1 C.2.1 hdg hi hl hn hL (fun ls hl => kk H locs ls hP hS hl)
theorem xr_astore (C : XC p s m args c cc Ts own D cl tys n a nL) {i : Nat} {x : Nat} (L' : List (Nat × Value)) (hdg : decode cc pc = .ok (.astore i, 2)) (hn : i < nL) (hL : (i, Value.ref x) :: L.filter (fun q => !(q.1 == i) && !(q.1 + 1 == i && q.2.category == 2)) = L') (kk : XJ p l e R s m args below meth c D cl n a cf nL Q h L' rest (pc + 2)) : XJ p l e R s m args below meth c D cl n a cf nL Q h L (.ref x :: rest) pc := fun H locs ls hP hS hl => lv_astore C.1 C.2.1 hdg hl hn hL (fun ls hl => kk H locs ls hP hS hl)
theorem xr_iinc (C : XC p s m args c cc Ts own D cl tys n a nL) {i : Nat} {k : Int} {x v : Int32} (L' : List (Nat × Value)) (hdg : decode cc pc = .ok (.iinc i k, 3)) (j : Nat) (hj : L[j]? = some (i, .int x)) (hv : x + Int32.ofInt k = v) (hn : i < nL) (hL : (i, Value.int v) :: L.filter (fun q => !(q.1 == i) && !(q.1 + 1 == i && q.2.category == 2)) = L') (kk : XJ p l e R s m args below meth c D cl n a cf nL Q h L' rest (pc + 3)) : XJ p l e R s m args below meth c D cl n a cf nL Q h L rest pc := fun H locs ls hP hS hl => lv_iinc C.1 C.2.1 hdg hl hj hv hn hL (fun ls hl => kk H locs ls hP hS hl)
theorem xr_iadd (C : XC p s m args c cc Ts own D cl tys n a nL) {x y : Int32} (hdg : decode cc pc = .ok (.iadd, 1)) (kk : XJ p l e R s m args below meth c D cl n a cf nL Q h L (.int (x + y) :: rest) (pc + 1)) : XJ p l e R s m args below meth c D cl n a cf nL Q h L (.int y :: .int x :: rest) pc := fun H locs ls hP hS hl => lv_iadd C.1 C.2.1 hdg (kk H locs ls hP hS hl)
theorem xr_isub (C : XC p s m args c cc Ts own D cl tys n a nL) {x y : Int32} (hdg : decode cc pc = .ok (.isub, 1)) (kk : XJ p l e R s m args below meth c D cl n a cf nL Q h L (.int (x - y) :: rest) (pc + 1)) : XJ p l e R s m args below meth c D cl n a cf nL Q h L (.int y :: .int x :: rest) pc := fun H locs ls hP hS hl => lv_isub C.1 C.2.1 hdg (kk H locs ls hP hS hl)
theorem xr_imul (C : XC p s m args c cc Ts own D cl tys n a nL) {x y : Int32} (hdg : decode cc pc = .ok (.imul, 1)) (kk : XJ p l e R s m args below meth c D cl n a cf nL Q h L (.int (x * y) :: rest) (pc + 1)) : XJ p l e R s m args below meth c D cl n a cf nL Q h L (.int y :: .int x :: rest) pc := fun H locs ls hP hS hl => lv_imul C.1 C.2.1 hdg (kk H locs ls hP hS hl)
theorem xr_iand (C : XC p s m args c cc Ts own D cl tys n a nL) {x y : Int32} (hdg : decode cc pc = .ok (.iand, 1)) (kk : XJ p l e R s m args below meth c D cl n a cf nL Q h L (.int (x &&& y) :: rest) (pc + 1)) : XJ p l e R s m args below meth c D cl n a cf nL Q h L (.int y :: .int x :: rest) pc := fun H locs ls hP hS hl => lv_iand C.1 C.2.1 hdg (kk H locs ls hP hS hl)
theorem xr_ior (C : XC p s m args c cc Ts own D cl tys n a nL) {x y : Int32} (hdg : decode cc pc = .ok (.ior, 1)) (kk : XJ p l e R s m args below meth c D cl n a cf nL Q h L (.int (x ||| y) :: rest) (pc + 1)) : XJ p l e R s m args below meth c D cl n a cf nL Q h L (.int y :: .int x :: rest) pc := fun H locs ls hP hS hl => lv_ior C.1 C.2.1 hdg (kk H locs ls hP hS hl)
theorem xr_ixor (C : XC p s m args c cc Ts own D cl tys n a nL) {x y : Int32} (hdg : decode cc pc = .ok (.ixor, 1)) (kk : XJ p l e R s m args below meth c D cl n a cf nL Q h L (.int (x ^^^ y) :: rest) (pc + 1)) : XJ p l e R s m args below meth c D cl n a cf nL Q h L (.int y :: .int x :: rest) pc := fun H locs ls hP hS hl => lv_ixor C.1 C.2.1 hdg (kk H locs ls hP hS hl)
theorem xr_ishl (C : XC p s m args c cc Ts own D cl tys n a nL) {x y : Int32} (hdg : decode cc pc = .ok (.ishl, 1)) (kk : XJ p l e R s m args below meth c D cl n a cf nL Q h L (.int (x <<< (y &&& 31)) :: rest) (pc + 1)) : XJ p l e R s m args below meth c D cl n a cf nL Q h L (.int y :: .int x :: rest) pc := fun H locs ls hP hS hl => lv_ishl C.1 C.2.1 hdg (kk H locs ls hP hS hl)
theorem xr_ishr (C : XC p s m args c cc Ts own D cl tys n a nL) {x y : Int32} (hdg : decode cc pc = .ok (.ishr, 1)) (kk : XJ p l e R s m args below meth c D cl n a cf nL Q h L (.int (x >>> (y &&& 31)) :: rest) (pc + 1)) : XJ p l e R s m args below meth c D cl n a cf nL Q h L (.int y :: .int x :: rest) pc := fun H locs ls hP hS hl => lv_ishr C.1 C.2.1 hdg (kk H locs ls hP hS hl)
theorem xr_idiv (C : XC p s m args c cc Ts own D cl tys n a nL) {x y : Int32} (hdg : decode cc pc = .ok (.idiv, 1)) (hne : ¬ y = 0) (kk : XJ p l e R s m args below meth c D cl n a cf nL Q h L (.int (x / y) :: rest) (pc + 1)) : XJ p l e R s m args below meth c D cl n a cf nL Q h L (.int y :: .int x :: rest) pc := fun H locs ls hP hS hl => lv_idiv C.1 C.2.1 hdg hne (kk H locs ls hP hS hl)
theorem xr_irem (C : XC p s m args c cc Ts own D cl tys n a nL) {x y : Int32} (hdg : decode cc pc = .ok (.irem, 1)) (hne : ¬ y = 0) (kk : XJ p l e R s m args below meth c D cl n a cf nL Q h L (.int (x - x / y * y) :: rest) (pc + 1)) : XJ p l e R s m args below meth c D cl n a cf nL Q h L (.int y :: .int x :: rest) pc := fun H locs ls hP hS hl => lv_irem C.1 C.2.1 hdg hne (kk H locs ls hP hS hl)
theorem xr_ineg (C : XC p s m args c cc Ts own D cl tys n a nL) {x : Int32} (hdg : decode cc pc = .ok (.ineg, 1)) (kk : XJ p l e R s m args below meth c D cl n a cf nL Q h L (.int (-x) :: rest) (pc + 1)) : XJ p l e R s m args below meth c D cl n a cf nL Q h L (.int x :: rest) pc := fun H locs ls hP hS hl => lv_ineg C.1 C.2.1 hdg (kk H locs ls hP hS hl)
theorem xr_iushr (C : XC p s m args c cc Ts own D cl tys n a nL) {x y : Int32} (hdg : decode cc pc = .ok (.iushr, 1)) (kk : XJ p l e R s m args below meth c D cl n a cf nL Q h L (.int (x.toUInt32 >>> (y.toUInt32 &&& Int32.toUInt32 31)).toInt32 :: rest) (pc + 1)) : XJ p l e R s m args below meth c D cl n a cf nL Q h L (.int y :: .int x :: rest) pc := fun H locs ls hP hS hl => lv_iushr C.1 C.2.1 hdg rfl (kk H locs ls hP hS hl)
theorem xr_i2b (C : XC p s m args c cc Ts own D cl tys n a nL) {x : Int32} (hdg : decode cc pc = .ok (.i2b, 1)) (kk : XJ p l e R s m args below meth c D cl n a cf nL Q h L (.int x.toInt8.toInt32 :: rest) (pc + 1)) : XJ p l e R s m args below meth c D cl n a cf nL Q h L (.int x :: rest) pc := fun H locs ls hP hS hl => lv_i2b C.1 C.2.1 hdg rfl (kk H locs ls hP hS hl)
theorem xr_i2s (C : XC p s m args c cc Ts own D cl tys n a nL) {x : Int32} (hdg : decode cc pc = .ok (.i2s, 1)) (kk : XJ p l e R s m args below meth c D cl n a cf nL Q h L (.int x.toInt16.toInt32 :: rest) (pc + 1)) : XJ p l e R s m args below meth c D cl n a cf nL Q h L (.int x :: rest) pc := fun H locs ls hP hS hl => lv_i2s C.1 C.2.1 hdg rfl (kk H locs ls hP hS hl)
theorem xr_dup (C : XC p s m args c cc Ts own D cl tys n a nL) {v : Value} (hdg : decode cc pc = .ok (.dup, 1)) (hv : v.category = 1) (kk : XJ p l e R s m args below meth c D cl n a cf nL Q h L (v :: v :: rest) (pc + 1)) : XJ p l e R s m args below meth c D cl n a cf nL Q h L (v :: rest) pc := fun H locs ls hP hS hl => lv_dup C.1 C.2.1 hdg hv (kk H locs ls hP hS hl)
theorem xr_pop (C : XC p s m args c cc Ts own D cl tys n a nL) {v : Value} (hdg : decode cc pc = .ok (.pop, 1)) (hv : v.category = 1) (kk : XJ p l e R s m args below meth c D cl n a cf nL Q h L rest (pc + 1)) : XJ p l e R s m args below meth c D cl n a cf nL Q h L (v :: rest) pc := fun H locs ls hP hS hl => lv_pop C.1 C.2.1 hdg hv (kk H locs ls hP hS hl)
theorem xr_dup_x1 (C : XC p s m args c cc Ts own D cl tys n a nL) {v u : Value} (hdg : decode cc pc = .ok (.dup_x1, 1)) (hv : v.category = 1) (hu : u.category = 1) (kk : XJ p l e R s m args below meth c D cl n a cf nL Q h L (v :: u :: v :: rest) (pc + 1)) : XJ p l e R s m args below meth c D cl n a cf nL Q h L (v :: u :: rest) pc := fun H locs ls hP hS hl => lv_dup_x1 C.1 C.2.1 hdg hv hu (kk H locs ls hP hS hl)
theorem xr_dup2 (C : XC p s m args c cc Ts own D cl tys n a nL) {v u : Value} (hdg : decode cc pc = .ok (.dup2, 1)) (hv : v.category = 1) (hu : u.category = 1) (kk : XJ p l e R s m args below meth c D cl n a cf nL Q h L (v :: u :: v :: u :: rest) (pc + 1)) : XJ p l e R s m args below meth c D cl n a cf nL Q h L (v :: u :: rest) pc := fun H locs ls hP hS hl => lv_dup2_11 C.1 C.2.1 hdg hv hu (kk H locs ls hP hS hl)
theorem xr_dup_x2 (C : XC p s m args c cc Ts own D cl tys n a nL) {v u t : Value} (hdg : decode cc pc = .ok (.dup_x2, 1)) (hv : v.category = 1) (hu : u.category = 1) (ht : t.category = 1) (kk : XJ p l e R s m args below meth c D cl n a cf nL Q h L (v :: u :: t :: v :: rest) (pc + 1)) : XJ p l e R s m args below meth c D cl n a cf nL Q h L (v :: u :: t :: rest) pc := fun H locs ls hP hS hl => lv_dup_x2 C.1 C.2.1 hdg hv hu ht (kk H locs ls hP hS hl)
theorem xr_if_eq (C : XC p s m args c cc Ts own D cl tys n a nL) {x : Int32} {off : Int} (tgt : Nat) (hdg : decode cc pc = .ok (.ifCond .eq off, 3)) (ht : (pc : Int) + off = (tgt : Int)) (kt : x = 0 → XJ p l e R s m args below meth c D cl n a cf nL Q h L rest tgt) (kf : ¬ x = 0 → XJ p l e R s m args below meth c D cl n a cf nL Q h L rest (pc + 3)) : XJ p l e R s m args below meth c D cl n a cf nL Q h L (.int x :: rest) pc := fun H locs ls hP hS hl => lv_if_eq C.1 C.2.1 hdg ht (fun q => kt q H locs ls hP hS hl) (fun q => kf q H locs ls hP hS hl)
theorem xr_icmp_eq (C : XC p s m args c cc Ts own D cl tys n a nL) {x y : Int32} {off : Int} (tgt : Nat) (hdg : decode cc pc = .ok (.if_icmp .eq off, 3)) (ht : (pc : Int) + off = (tgt : Int)) (kt : x = y → XJ p l e R s m args below meth c D cl n a cf nL Q h L rest tgt) (kf : ¬ x = y → XJ p l e R s m args below meth c D cl n a cf nL Q h L rest (pc + 3)) : XJ p l e R s m args below meth c D cl n a cf nL Q h L (.int y :: .int x :: rest) pc := fun H locs ls hP hS hl => lv_icmp_eq C.1 C.2.1 hdg ht (fun q => kt q H locs ls hP hS hl) (fun q => kf q H locs ls hP hS hl)
theorem xr_if_ne (C : XC p s m args c cc Ts own D cl tys n a nL) {x : Int32} {off : Int} (tgt : Nat) (hdg : decode cc pc = .ok (.ifCond .ne off, 3)) (ht : (pc : Int) + off = (tgt : Int)) (kt : ¬ x = 0 → XJ p l e R s m args below meth c D cl n a cf nL Q h L rest tgt) (kf : x = 0 → XJ p l e R s m args below meth c D cl n a cf nL Q h L rest (pc + 3)) : XJ p l e R s m args below meth c D cl n a cf nL Q h L (.int x :: rest) pc := fun H locs ls hP hS hl => lv_if_ne C.1 C.2.1 hdg ht (fun q => kt q H locs ls hP hS hl) (fun q => kf q H locs ls hP hS hl)
theorem xr_icmp_ne (C : XC p s m args c cc Ts own D cl tys n a nL) {x y : Int32} {off : Int} (tgt : Nat) (hdg : decode cc pc = .ok (.if_icmp .ne off, 3)) (ht : (pc : Int) + off = (tgt : Int)) (kt : ¬ x = y → XJ p l e R s m args below meth c D cl n a cf nL Q h L rest tgt) (kf : x = y → XJ p l e R s m args below meth c D cl n a cf nL Q h L rest (pc + 3)) : XJ p l e R s m args below meth c D cl n a cf nL Q h L (.int y :: .int x :: rest) pc := fun H locs ls hP hS hl => lv_icmp_ne C.1 C.2.1 hdg ht (fun q => kt q H locs ls hP hS hl) (fun q => kf q H locs ls hP hS hl)
theorem xr_if_lt (C : XC p s m args c cc Ts own D cl tys n a nL) {x : Int32} {off : Int} (tgt : Nat) (hdg : decode cc pc = .ok (.ifCond .lt off, 3)) (ht : (pc : Int) + off = (tgt : Int)) (kt : x < 0 → XJ p l e R s m args below meth c D cl n a cf nL Q h L rest tgt) (kf : ¬ x < 0 → XJ p l e R s m args below meth c D cl n a cf nL Q h L rest (pc + 3)) : XJ p l e R s m args below meth c D cl n a cf nL Q h L (.int x :: rest) pc := fun H locs ls hP hS hl => lv_if_lt C.1 C.2.1 hdg ht (fun q => kt q H locs ls hP hS hl) (fun q => kf q H locs ls hP hS hl)
theorem xr_icmp_lt (C : XC p s m args c cc Ts own D cl tys n a nL) {x y : Int32} {off : Int} (tgt : Nat) (hdg : decode cc pc = .ok (.if_icmp .lt off, 3)) (ht : (pc : Int) + off = (tgt : Int)) (kt : x < y → XJ p l e R s m args below meth c D cl n a cf nL Q h L rest tgt) (kf : ¬ x < y → XJ p l e R s m args below meth c D cl n a cf nL Q h L rest (pc + 3)) : XJ p l e R s m args below meth c D cl n a cf nL Q h L (.int y :: .int x :: rest) pc := fun H locs ls hP hS hl => lv_icmp_lt C.1 C.2.1 hdg ht (fun q => kt q H locs ls hP hS hl) (fun q => kf q H locs ls hP hS hl)
theorem xr_if_ge (C : XC p s m args c cc Ts own D cl tys n a nL) {x : Int32} {off : Int} (tgt : Nat) (hdg : decode cc pc = .ok (.ifCond .ge off, 3)) (ht : (pc : Int) + off = (tgt : Int)) (kt : 0 ≤ x → XJ p l e R s m args below meth c D cl n a cf nL Q h L rest tgt) (kf : ¬ 0 ≤ x → XJ p l e R s m args below meth c D cl n a cf nL Q h L rest (pc + 3)) : XJ p l e R s m args below meth c D cl n a cf nL Q h L (.int x :: rest) pc := fun H locs ls hP hS hl => lv_if_ge C.1 C.2.1 hdg ht (fun q => kt q H locs ls hP hS hl) (fun q => kf q H locs ls hP hS hl)
theorem xr_icmp_ge (C : XC p s m args c cc Ts own D cl tys n a nL) {x y : Int32} {off : Int} (tgt : Nat) (hdg : decode cc pc = .ok (.if_icmp .ge off, 3)) (ht : (pc : Int) + off = (tgt : Int)) (kt : y ≤ x → XJ p l e R s m args below meth c D cl n a cf nL Q h L rest tgt) (kf : ¬ y ≤ x → XJ p l e R s m args below meth c D cl n a cf nL Q h L rest (pc + 3)) : XJ p l e R s m args below meth c D cl n a cf nL Q h L (.int y :: .int x :: rest) pc := fun H locs ls hP hS hl => lv_icmp_ge C.1 C.2.1 hdg ht (fun q => kt q H locs ls hP hS hl) (fun q => kf q H locs ls hP hS hl)
theorem xr_if_gt (C : XC p s m args c cc Ts own D cl tys n a nL) {x : Int32} {off : Int} (tgt : Nat) (hdg : decode cc pc = .ok (.ifCond .gt off, 3)) (ht : (pc : Int) + off = (tgt : Int)) (kt : 0 < x → XJ p l e R s m args below meth c D cl n a cf nL Q h L rest tgt) (kf : ¬ 0 < x → XJ p l e R s m args below meth c D cl n a cf nL Q h L rest (pc + 3)) : XJ p l e R s m args below meth c D cl n a cf nL Q h L (.int x :: rest) pc := fun H locs ls hP hS hl => lv_if_gt C.1 C.2.1 hdg ht (fun q => kt q H locs ls hP hS hl) (fun q => kf q H locs ls hP hS hl)
theorem xr_icmp_gt (C : XC p s m args c cc Ts own D cl tys n a nL) {x y : Int32} {off : Int} (tgt : Nat) (hdg : decode cc pc = .ok (.if_icmp .gt off, 3)) (ht : (pc : Int) + off = (tgt : Int)) (kt : y < x → XJ p l e R s m args below meth c D cl n a cf nL Q h L rest tgt) (kf : ¬ y < x → XJ p l e R s m args below meth c D cl n a cf nL Q h L rest (pc + 3)) : XJ p l e R s m args below meth c D cl n a cf nL Q h L (.int y :: .int x :: rest) pc := fun H locs ls hP hS hl => lv_icmp_gt C.1 C.2.1 hdg ht (fun q => kt q H locs ls hP hS hl) (fun q => kf q H locs ls hP hS hl)
theorem xr_if_le (C : XC p s m args c cc Ts own D cl tys n a nL) {x : Int32} {off : Int} (tgt : Nat) (hdg : decode cc pc = .ok (.ifCond .le off, 3)) (ht : (pc : Int) + off = (tgt : Int)) (kt : x ≤ 0 → XJ p l e R s m args below meth c D cl n a cf nL Q h L rest tgt) (kf : ¬ x ≤ 0 → XJ p l e R s m args below meth c D cl n a cf nL Q h L rest (pc + 3)) : XJ p l e R s m args below meth c D cl n a cf nL Q h L (.int x :: rest) pc := fun H locs ls hP hS hl => lv_if_le C.1 C.2.1 hdg ht (fun q => kt q H locs ls hP hS hl) (fun q => kf q H locs ls hP hS hl)
theorem xr_icmp_le (C : XC p s m args c cc Ts own D cl tys n a nL) {x y : Int32} {off : Int} (tgt : Nat) (hdg : decode cc pc = .ok (.if_icmp .le off, 3)) (ht : (pc : Int) + off = (tgt : Int)) (kt : x ≤ y → XJ p l e R s m args below meth c D cl n a cf nL Q h L rest tgt) (kf : ¬ x ≤ y → XJ p l e R s m args below meth c D cl n a cf nL Q h L rest (pc + 3)) : XJ p l e R s m args below meth c D cl n a cf nL Q h L (.int y :: .int x :: rest) pc := fun H locs ls hP hS hl => lv_icmp_le C.1 C.2.1 hdg ht (fun q => kt q H locs ls hP hS hl) (fun q => kf q H locs ls hP hS hl)
theorem xr_goto (C : XC p s m args c cc Ts own D cl tys n a nL) {off : Int} (tgt : Nat) (hdg : decode cc pc = .ok (.goto off, 3)) (ht : (pc : Int) + off = (tgt : Int)) (kk : XJ p l e R s m args below meth c D cl n a cf nL Q h L rest tgt) : XJ p l e R s m args below meth c D cl n a cf nL Q h L rest pc := fun H locs ls hP hS hl => lv_goto C.1 C.2.1 hdg ht (kk H locs ls hP hS hl)
theorem xr_tableOut (C : XC p s m args c cc Ts own D cl tys n a nL) {dflt lo hi : Int} {offs : Array Int} {len : Nat} {x : Int32} (tgt : Nat) (hdg : decode cc pc = .ok (.tableswitch dflt lo hi offs, len)) (hx : x.toInt < lo ∨ hi < x.toInt) (ht : (pc : Int) + dflt = (tgt : Int)) (kk : XJ p l e R s m args below meth c D cl n a cf nL Q h L rest tgt) : XJ p l e R s m args below meth c D cl n a cf nL Q h L (.int x :: rest) pc := fun H locs ls hP hS hl => lv_tableOut C.1 C.2.1 hdg hx ht (kk H locs ls hP hS hl)
theorem xr_tableIn (C : XC p s m args c cc Ts own D cl tys n a nL) {dflt lo hi : Int} {offs : Array Int} {len : Nat} {x : Int32} {off : Int} (tgt : Nat) (z : Int) (hdg : decode cc pc = .ok (.tableswitch dflt lo hi offs, len)) (hz : x.toInt = z) (h1 : ¬ z < lo) (h2 : ¬ hi < z) (ho : offs[(z - lo).toNat]? = some off) (ht : (pc : Int) + off = (tgt : Int)) (kk : XJ p l e R s m args below meth c D cl n a cf nL Q h L rest tgt) : XJ p l e R s m args below meth c D cl n a cf nL Q h L (.int x :: rest) pc := fun H locs ls hP hS hl => by
  subst hz
  exact lv_tableIn C.1 C.2.1 hdg h1 h2 ho ht (kk H locs ls hP hS hl)
theorem xr_get (C : XC p s m args c cc Ts own D cl tys n a nL) {Cn ref : String} {T : u_T} {N ci index : Nat} (i : Nat) (hi : i < n) {fs : List Value} (he : cf i (h i) = .inr (ci, fs)) (hc : cl[ci]? = some (Cn, T, N)) (k : Nat) (hk : k < N) (hin : ∀ w ∈ u_ws Cn T N, w ∈ Ts) (hlk : Cond.fieldLink own index ref (T k).2.1 (T k).2.2.1 ∈ Ts) (hr : (T k).1 = ref) {v : Value} (hv : fs[k]? = some v) (hdg : decode cc pc = .ok (.getfield index, 3)) (kk : XJ p l e R s m args below meth c D cl n a cf nL Q h L (v :: rest) (pc + 3)) : XJ p l e R s m args below meth c D cl n a cf nL Q h L (.ref (a i) :: rest) pc := fun H locs ls hP hS hl => by
  subst hr
  exact va_get C.1 C.2.1 C.2.2.1 hin C.2.2.2.1 C.2.2.2.2.1.1 hP i (xw_e hi he) hc k hk (C.2.2.1 _ hlk) (fun _ h9 => h9) hv hdg (kk H locs ls hP hS hl)
theorem xr_put (C : XC p s m args c cc Ts own D cl tys n a nL) {Cn ref : String} {T : u_T} {N ci index : Nat} (i : Nat) (hi : i < n) {fs : List Value} (he : cf i (h i) = .inr (ci, fs)) (hc : cl[ci]? = some (Cn, T, N)) (k : Nat) (hk : k < N) (hin : ∀ w ∈ u_ws Cn T N, w ∈ Ts) (hlk : Cond.fieldLink own index ref (T k).2.1 (T k).2.2.1 ∈ Ts) (hr : (T k).1 = ref) (ty0 : Nat → FieldType) (hty : ∀ k, k < N → parseFieldDescriptor (T k).2.2.1 = some (ty0 k)) (hnm : ∀ a, a < N → ∀ b, b < N → a ≠ b → (T a).2.1 ≠ (T b).2.1) (hfin : (T k).2.2.2 = false) {ty : FieldType} {v : Int32} (hd : parseFieldDescriptor (T k).2.2.1 = some ty) (hn : narrow ty (.int v) = .int v) (hfit : fits ty (.int v) = true) (hl9 : k < fs.length) (he2 : cf i (upd (h i) k v) = .inr (ci, fs.set k (.int v))) (hdg : decode cc pc = .ok (.putfield index, 3)) (kk : XJ p l e R s m args below meth c D cl n a cf nL Q (u2 h i k v) L rest (pc + 3)) : XJ p l e R s m args below meth c D cl n a cf nL Q h L (.int v :: .ref (a i) :: rest) pc := fun H locs ls hP hS hl => by
  subst hr
  exact va_put C.1 C.2.1 C.2.2.1 hin ty0 hty hnm C.2.2.2.1 C.2.2.2.2.1.1 hP (xD_D C.2.2.2.2.2.1) hS i (xw_e hi he) hc k hk (C.2.2.1 _ hlk) (fun _ h9 => h9) hfin hd hn hfit hl9 hdg (fun H1 locs1 hP1 _ hS1 => kk H1 locs1 ls (by rw [u2_row, ← xw_set hi he2]; exact hP1) hS1 hl)
theorem xr_iald (C : XC p s m args c cc Ts own D cl tys n a nL) {v : Int32} (i : Nat) (hi : i < n) (t0 : Nat) {cA : ClassId} {N : Nat} (he : cf i (h i) = .inl (cA, N, .inl (h i))) (ht : tys.1[t0]? = some (cA, .int)) {j : Int32} (hin : ¬ (j < 0 ∨ N ≤ j.toNatClampNeg)) (hv : h i j.toNatClampNeg = v) (hdg : decode cc pc = .ok (.iaload, 1)) (kk : XJ p l e R s m args below meth c D cl n a cf nL Q h L (.int v :: rest) (pc + 1)) : XJ p l e R s m args below meth c D cl n a cf nL Q h L (.int j :: .ref (a i) :: rest) pc := fun H locs ls hP hS hl => va_iald C.1 C.2.1 C.2.2.2.2.1.1 hP i t0 (xw_e hi he) ht hin hdg (by rw [hv]; exact kk H locs ls hP hS hl)
theorem xr_iast (C : XC p s m args c cc Ts own D cl tys n a nL) (i : Nat) (hi : i < n) (t0 : Nat) {cA : ClassId} {N : Nat} (he : ∀ r : Nat → Int32, cf i r = .inl (cA, N, .inl r)) (ht : tys.1[t0]? = some (cA, .int)) {j v : Int32} (hin : ¬ (j < 0 ∨ N ≤ j.toNatClampNeg)) (hdg : decode cc pc = .ok (.iastore, 1)) (kk : XJ p l e R s m args below meth c D cl n a cf nL Q (u2 h i j.toNatClampNeg v) L rest (pc + 1)) : XJ p l e R s m args below meth c D cl n a cf nL Q h L (.int v :: .int j :: .ref (a i) :: rest) pc := fun H locs ls hP hS hl =>
  va_iast C.1 C.2.1 C.2.2.2.2.1.1 hP (xD_D C.2.2.2.2.2.1) hS i t0 (xw_e hi (he _)) ht hin hdg (fun H1 locs1 hP1 _ hS1 => kk H1 locs1 ls (by rw [u2_row, ← xw_set hi (he _)]; exact hP1) hS1 hl)
theorem xr_zald (C : XC p s m args c cc Ts own D cl tys n a nL) {v : Int32} (i : Nat) (hi : i < n) (t0 : Nat) {cA : ClassId} {N : Nat} (he : cf i (h i) = .inl (cA, N, .inl (h i))) (ht : tys.1[t0]? = some (cA, .boolean)) {j : Int32} (hin : ¬ (j < 0 ∨ N ≤ j.toNatClampNeg)) (hv : h i j.toNatClampNeg = v) (hdg : decode cc pc = .ok (.baload, 1)) (kk : XJ p l e R s m args below meth c D cl n a cf nL Q h L (.int v :: rest) (pc + 1)) : XJ p l e R s m args below meth c D cl n a cf nL Q h L (.int j :: .ref (a i) :: rest) pc := fun H locs ls hP hS hl => va_zald C.1 C.2.1 C.2.2.2.2.1.1 hP i t0 (xw_e hi he) ht hin hdg (by rw [hv]; exact kk H locs ls hP hS hl)
theorem xr_zast (C : XC p s m args c cc Ts own D cl tys n a nL) (i : Nat) (hi : i < n) (t0 : Nat) {cA : ClassId} {N : Nat} (he : ∀ r : Nat → Int32, cf i r = .inl (cA, N, .inl r)) (ht : tys.1[t0]? = some (cA, .boolean)) {j v : Int32} (hnar : vp_nar .boolean v = v) (hin : ¬ (j < 0 ∨ N ≤ j.toNatClampNeg)) (hdg : decode cc pc = .ok (.bastore, 1)) (kk : XJ p l e R s m args below meth c D cl n a cf nL Q (u2 h i j.toNatClampNeg v) L rest (pc + 1)) : XJ p l e R s m args below meth c D cl n a cf nL Q h L (.int v :: .int j :: .ref (a i) :: rest) pc := fun H locs ls hP hS hl =>
  va_zast C.1 C.2.1 C.2.2.2.2.1.1 hP (xD_D C.2.2.2.2.2.1) hS i t0 (xw_e hi (he _)) ht hin hdg (fun H1 locs1 hP1 _ hS1 => kk H1 locs1 ls (by rw [hnar] at hP1; rw [u2_row, ← xw_set hi (he _)]; exact hP1) hS1 hl)
theorem xr_aald (C : XC p s m args c cc Ts own D cl tys n a nL) (i : Nat) (hi : i < n) (t0 : Nat) {cA : ClassId} {Cn : String} {N : Nat} {f : Nat → Option Nat} (he : cf i (h i) = .inl (cA, N, .inr (.inr (.inr (.inr f))))) (ht : tys.1[t0]? = some (cA, .object Cn)) {j : Int32} (hin : ¬ (j < 0 ∨ N ≤ j.toNatClampNeg)) {b : Nat} (hb9 : f j.toNatClampNeg = some b) (hdg : decode cc pc = .ok (.aaload, 1)) (kk : XJ p l e R s m args below meth c D cl n a cf nL Q h L (.ref b :: rest) (pc + 1)) : XJ p l e R s m args below meth c D cl n a cf nL Q h L (.int j :: .ref (a i) :: rest) pc := fun H locs ls hP hS hl =>
  va_aldq C.1 C.2.1 C.2.2.2.2.1.1 hP i t0 (xw_e hi he) ht hin hdg (by rw [hb9]; exact kk H locs ls hP hS hl)
theorem xr_alen (C : XC p s m args c cc Ts own D cl tys n a nL) (i : Nat) (hi : i < n) (t0 : Nat) {cA : ClassId} {x : vp_A} (he : cf i (h i) = .inl (cA, x)) {ty : FieldType} (ht : tys.1[t0]? = some (cA, ty)) {v : Int32} (hv : Int32.ofNat x.1 = v) (hdg : decode cc pc = .ok (.arraylength, 1)) (kk : XJ p l e R s m args below meth c D cl n a cf nL Q h L (.int v :: rest) (pc + 1)) : XJ p l e R s m args below meth c D cl n a cf nL Q h L (.ref (a i) :: rest) pc := fun H locs ls hP hS hl =>
  va_alen C.1 C.2.1 C.2.2.2.2.1.1 hP i t0 (xw_e hi he) ht hv hdg (kk H locs ls hP hS hl)
theorem xr_copy (C : XC p s m args c cc Ts own D cl tys n a nL) {index : Nat} (i0 i1 : Nat) (hi0 : i0 < n) (hi1 : i1 < n) (t0 : Nat) {cA : ClassId} {N0 N1 : Nat} (he0 : cf i0 (h i0) = .inl (cA, N0, .inl (h i0))) (he1 : ∀ r : Nat → Int32, cf i1 r = .inl (cA, N1, .inl r)) (ht : tys.1[t0]? = some (cA, .int)) (hw1 : Cond.methodLink own index arraycopyName ∈ Ts) (hw2 : Cond.native arraycopyName ∈ Ts) (hw3 : Cond.static arraycopyName ∈ Ts) (hw4 : Cond.initialized "java/lang/System" ∈ Ts)
    {sp dp k : Int32} (hg : (¬ sp < 0 ∧ ¬ dp < 0 ∧ ¬ k < 0) ∧ sp.toNatClampNeg + k.toNatClampNeg ≤ N0 ∧ dp.toNatClampNeg + k.toNatClampNeg ≤ N1) (hframes : 1 ≤ R.frames) (hlocals : (rest.map fun v => v.category).sum + (nativeFrameWords "java/lang/System" "arraycopy" 5 + 11) ≤ R.locals) (hdg : decode cc pc = .ok (.invokestatic index, 3)) (kk : XJ p l e R s m args below meth c D cl n a cf nL Q (va_up h i1 (va_cpy (h i0) (h i1) sp.toNatClampNeg dp.toNatClampNeg k.toNatClampNeg)) L rest (pc + 3)) : XJ p l e R s m args below meth c D cl n a cf nL Q h L (.int k :: .int dp :: .ref (a i1) :: .int sp :: .ref (a i0) :: rest) pc := fun H locs ls hP hS hl =>
  va_copyi C.1 C.2.1 (C.2.2.2.2.2.2.trans hl.1.symm) C.2.2.2.1 (C.2.2.1 _ hw1) (C.2.2.1 _ hw2) (C.2.2.1 _ hw3) (C.2.2.1 _ hw4) C.2.2.2.2.1.1 hP (xD_D C.2.2.2.2.2.1) hS i0 i1 t0 t0 (xw_e hi0 he0) (xw_e hi1 (he1 _)) ht ht rfl hg.1.1 hg.1.2.1 hg.1.2.2 hg.2.1 hg.2.2 (fun _ _ => rfl) hframes hlocals hdg
    (fun H1 locs1 hP1 _ hS1 => kk H1 locs1 ls (by rw [← xw_set hi1 (he1 _)]; exact hP1) hS1 hl)
theorem xr_mmax (C : XC p s m args c cc Ts own D cl tys n a nL) {index : Nat} (hw1 : Cond.methodLink own index Lib.Math.max.name ∈ Ts) (hw2 : Cond.static Lib.Math.max.name ∈ Ts) (hw3 : Cond.initialized "java/lang/Math" ∈ Ts) (hw4 : Cond.code Lib.Math.max.name Lib.Math.max.code 2 (some .int) ∈ Ts) (hframes : 1 ≤ R.frames) (hlocals : (rest.map fun v => v.category).sum + 13 ≤ R.locals) {x y : Int32} (hdg : decode cc pc = .ok (.invokestatic index, 3)) (kk : XJ p l e R s m args below meth c D cl n a cf nL Q h L (.int (if x < y then y else x) :: rest) (pc + 3)) : XJ p l e R s m args below meth c D cl n a cf nL Q h L (.int y :: .int x :: rest) pc := fun H locs ls hP hS hl =>
  va_mmax C.1 C.2.1 (C.2.2.2.2.2.2.trans hl.1.symm) C.2.2.2.1 (C.2.2.1 _ hw1) (C.2.2.1 _ hw2) (C.2.2.1 _ hw3) (C.2.2.1 _ hw4) hframes hlocals (Nat.zero_le _) (Nat.zero_le _) hdg (kk H locs ls hP hS hl)
theorem xr_mmin (C : XC p s m args c cc Ts own D cl tys n a nL) {index : Nat} (hw1 : Cond.methodLink own index Lib.Math.min.name ∈ Ts) (hw2 : Cond.static Lib.Math.min.name ∈ Ts) (hw3 : Cond.initialized "java/lang/Math" ∈ Ts) (hw4 : Cond.code Lib.Math.min.name Lib.Math.min.code 2 (some .int) ∈ Ts) (hframes : 1 ≤ R.frames) (hlocals : (rest.map fun v => v.category).sum + 13 ≤ R.locals) {x y : Int32} (hdg : decode cc pc = .ok (.invokestatic index, 3)) (kk : XJ p l e R s m args below meth c D cl n a cf nL Q h L (.int (if y < x then y else x) :: rest) (pc + 3)) : XJ p l e R s m args below meth c D cl n a cf nL Q h L (.int y :: .int x :: rest) pc := fun H locs ls hP hS hl =>
  va_mmin C.1 C.2.1 (C.2.2.2.2.2.2.trans hl.1.symm) C.2.2.2.1 (C.2.2.1 _ hw1) (C.2.2.1 _ hw2) (C.2.2.1 _ hw3) (C.2.2.1 _ hw4) hframes hlocals (Nat.zero_le _) (Nat.zero_le _) hdg (kk H locs ls hP hS hl)
theorem xr_sub (_C : XC p s m args c cc Ts own D cl tys n a nL) (ks : List Nat) {L' : List (Nat × Value)} (hL : lv_pick L ks = L') (kk : XJ p l e R s m args below meth c D cl n a cf nL Q h L' rest pc) : XJ p l e R s m args below meth c D cl n a cf nL Q h L rest pc := fun H locs ls hP hS hl => kk H locs ls hP hS (lv_sub hl ks hL)
theorem xr_topi (_C : XC p s m args c cc Ts own D cl tys n a nL) {x : Int32} (kk : ∀ y : Int32, y = x → XJ p l e R s m args below meth c D cl n a cf nL Q h L (.int y :: rest) pc) : XJ p l e R s m args below meth c D cl n a cf nL Q h L (.int x :: rest) pc := kk x rfl
end XR
section XM
/-- a method's contract over the world: from h, with these arguments, it comes to h' with this answer -/
def XPc (D : va_G) (cl : List vw_C) (tys : xT) (n : Nat) (a : Nat → Nat) (cf : Nat → (Nat → Int32) → va_E) (h : hp) (av : List Value) : Array Value → State → Prop := va_Pc av (fun U => va_P D cl (xw n a cf h) U.heap ∧ XK D cl tys U)
def XQi (D : va_G) (cl : List vw_C) (n : Nat) (a : Nat → Nat) (cf : Nat → (Nat → Int32) → va_E) (r : Int32) (h : hp) : Array Value → State → Outcome → State → Prop := va_Qi (fun (r' : Int32) (_ : Unit) => r' = r) (fun _ t => va_P D cl (xw n a cf h) t.heap) (xA n a)
def XQv (D : va_G) (cl : List vw_C) (n : Nat) (a : Nat → Nat) (cf : Nat → (Nat → Int32) → va_E) (h : hp) : Array Value → State → Outcome → State → Prop := va_Qv (fun (_ : Unit) => True) (fun _ t => va_P D cl (xw n a cf h) t.heap) (xA n a)
def XMi (l : Launch) (y : MethodName) (ws : List Cond) (rm : Room) (D : va_G) (cl : List vw_C) (tys : xT) (n : Nat) (a : Nat → Nat) (cf : Nat → (Nat → Int32) → va_E) (h : hp) (av : List Value) (r : Int32) (h' : hp) : Prop :=
  Met l y ws rm (XPc D cl tys n a cf h av) (XQi D cl n a cf r h') 0 0 (xA n a)
def XMv (l : Launch) (y : MethodName) (ws : List Cond) (rm : Room) (D : va_G) (cl : List vw_C) (tys : xT) (n : Nat) (a : Nat → Nat) (cf : Nat → (Nat → Int32) → va_E) (h : hp) (av : List Value) (h' : hp) : Prop :=
  Met l y ws rm (XPc D cl tys n a cf h av) (XQv D cl n a cf h') 0 0 (xA n a)
theorem xpc_blind {D : va_G} {cl : List vw_C} {tys : xT} {n : Nat} {a : Nat → Nat} {cf : Nat → (Nat → Int32) → va_E} {h : hp} {av : List Value} : FrameBlind (XPc D cl tys n a cf h av) := fun b U g mk q => by
  obtain ⟨q0, qP, qK⟩ := q
  exact ⟨q0, qP, XK.call (U := U) (V := U.calling g mk b) rfl qK⟩
end XM
section XT
variable {p : Program} {l : Launch} {e : Env} {R : Room} {s : State} {m : MethodId} {args : Array Value} {below : List Frame} {meth : Method} {c : Code} {cc : ByteArray} {Ts : List Cond} {own : String} {D : va_G} {cl : List vw_C} {tys : xT} {n : Nat} {a : Nat → Nat} {cf : Nat → (Nat → Int32) → va_E} {nL : Nat} {Q : State → Prop} {h : hp} {L : List (Nat × Value)} {rest : List Value} {pc : Nat}
theorem xr_iret (C : XC p s m args c cc Ts own D cl tys n a nL) (hlocks : meth.locks = false) (hr : meth.sig.returnType = some .int) {v : Int32} (hdg : decode cc pc = .ok (.ireturn, 1)) : XJ p l e R s m args below meth c D cl n a cf nL (MQ below (XQi D cl n a cf v h) args s 0 0 (xA n a)) h L [.int v] pc := fun H locs ls hP hS hl =>
  W.iret C.1 C.2.1 hr (fun t ht hW => ⟨⟨v, (), rfl, rfl, by subst ht; exact hP⟩, hS.F ht⟩) hS.2.2 hdg hlocks
theorem xr_zret (C : XC p s m args c cc Ts own D cl tys n a nL) (hlocks : meth.locks = false) {ty : FieldType} (hr : meth.sig.returnType = some ty) {v : Int32} (hn : narrow ty (.int v) = .int v) (hdg : decode cc pc = .ok (.ireturn, 1)) : XJ p l e R s m args below meth c D cl n a cf nL (MQ below (XQi D cl n a cf v h) args s 0 0 (xA n a)) h L [.int v] pc := fun H locs ls hP hS hl =>
  W.zret C.1 C.2.1 hr hn (fun t ht hW => ⟨⟨v, (), rfl, rfl, by subst ht; exact hP⟩, hS.F ht⟩) hS.2.2 hdg hlocks
theorem xr_vret (C : XC p s m args c cc Ts own D cl tys n a nL) (hlocks : meth.locks = false) (hr : meth.sig.returnType = none) (hdg : decode cc pc = .ok (.return_, 1)) : XJ p l e R s m args below meth c D cl n a cf nL (MQ below (XQv D cl n a cf h) args s 0 0 (xA n a)) h L [] pc := fun H locs ls hP hS hl =>
  W.vret C.1 C.2.1 hr (fun t ht hW => ⟨⟨(), rfl, trivial, by subst ht; exact hP⟩, hS.F ht⟩) hS.2.2 hdg hlocks
theorem xm_i {y : MethodName} {ws ws' : List Cond} {rm : Room} {maxL : Nat} {ty : FieldType} {av : List Value} {r : Int32} {h1 : hp} (hy : plainName y.cls = true) (hw : ws = Cond.code y cc maxL (some ty) :: ws') (hD : xD n a) (hlen : (lg_sl av).length ≤ maxL) (L : List (Nat × Value)) (hL : lv_args 0 av = L) (own : String) (hown : y.cls = own) (body : ∀ p e s m args below meth c, XC p s m args c cc ws own D cl tys n a maxL → meth.locks = false → meth.sig.returnType = some ty → XJ p l e rm s m args below meth c D cl n a cf maxL (MQ below (XQi D cl n a cf r h1) args s 0 0 (xA n a)) h L [] 0) : XMi l y ws rm D cl tys n a cf h av r h1 := by
  subst hown
  refine Met.ofW (cc := cc) (maxL := maxL) (ret := some ty) hy hw ?_
  intro p e s m args below meth c s₁ B hml hv
  obtain ⟨rfl, hP, hK⟩ := hv
  have hl := lv_entry av (n := maxL) hlen
  rw [lg_entry_eq]
  rw [hL] at hl
  exact body p e s m _ below meth c ⟨B.exec, B.bytes, atoms_spec (ws := ws) B.pre, findClass_of_methodNamed B.named, hK, hD, hml⟩ B.notSynchronized B.returns s.heap [] _ hP va_S.rf hl
theorem xm_v {y : MethodName} {ws ws' : List Cond} {rm : Room} {maxL : Nat} {av : List Value} {h1 : hp} (hy : plainName y.cls = true) (hw : ws = Cond.code y cc maxL (none) :: ws') (hD : xD n a) (hlen : (lg_sl av).length ≤ maxL) (L : List (Nat × Value)) (hL : lv_args 0 av = L) (own : String) (hown : y.cls = own) (body : ∀ p e s m args below meth c, XC p s m args c cc ws own D cl tys n a maxL → meth.locks = false → meth.sig.returnType = none → XJ p l e rm s m args below meth c D cl n a cf maxL (MQ below (XQv D cl n a cf h1) args s 0 0 (xA n a)) h L [] 0) : XMv l y ws rm D cl tys n a cf h av h1 := by
  subst hown
  refine Met.ofW (cc := cc) (maxL := maxL) (ret := none) hy hw ?_
  intro p e s m args below meth c s₁ B hml hv
  obtain ⟨rfl, hP, hK⟩ := hv
  have hl := lv_entry av (n := maxL) hlen
  rw [lg_entry_eq]
  rw [hL] at hl
  exact body p e s m _ below meth c ⟨B.exec, B.bytes, atoms_spec (ws := ws) B.pre, findClass_of_methodNamed B.named, hK, hD, hml⟩ B.notSynchronized B.returns s.heap [] _ hP va_S.rf hl
theorem xr_callVi (C : XC p s m args c cc Ts own D cl tys n a nL) {y : MethodName} {ws : List Cond} {rm : Room} {Cn : String} {r : Int32} {bytes : ByteArray} {maxL k index : Nat} {ret : Option FieldType} {h1 : hp} {stk : List Value} (i : Nat) (hi : i < n) {ci : Nat} {T : u_T} {N : Nat} {fs : List Value} (he : cf i (h i) = .inr (ci, fs)) (hc : cl[ci]? = some (Cn, T, N)) (As : List Value) (rest : List Value) (hM : XMi l y ws rm D cl tys n a cf h (.ref (a i) :: As) r h1) (cw : CallW R s args own Cn index y bytes maxL ret ws rm 0 0 k) (hstk : stk = As.reverse ++ .ref (a i) :: rest) (hk : As.length = k) (hroom : (rest.map fun v => v.category).sum ≤ 8) (hdg : decode cc pc = .ok (.invokevirtual index, 3)) (kk : XJ p l e R s m args below meth c D cl n a cf nL Q h1 L (.int r :: rest) (pc + 3)) : XJ p l e R s m args below meth c D cl n a cf nL Q h L stk pc := fun H locs ls hP hS hl =>
  va_calli (va_runV (As := As) (rest := rest) ⟨C.1, C.2.1, C.2.2.2.2.2.2, C.2.2.2.1, C.2.2.1⟩ hM cw ⟨xpc_blind, va_recv C.2.2.2.2.1.1 hP hc (xw_e hi he), fun U hU hW => ⟨rfl, by rw [hU]; exact hP, XK.warm hW C.2.2.2.2.1⟩⟩ rfl hk hl.1 hstk (lv_room hroom) hdg ⟨Nat.zero_le _, Nat.zero_le _⟩) hS (fun _ _ q => q) (fun _ q => q)
    (fun r9 _ _ H1 locs1 ht _ hr9 hB _ _ hS1 => by
      subst hr9
      exact kk H1 locs1 ls (by rw [← ht]; exact hB) hS1 hl)
theorem xr_callVv (C : XC p s m args c cc Ts own D cl tys n a nL) {y : MethodName} {ws : List Cond} {rm : Room} {Cn : String} {bytes : ByteArray} {maxL k index : Nat} {ret : Option FieldType} {h1 : hp} {stk : List Value} (i : Nat) (hi : i < n) {ci : Nat} {T : u_T} {N : Nat} {fs : List Value} (he : cf i (h i) = .inr (ci, fs)) (hc : cl[ci]? = some (Cn, T, N)) (As : List Value) (rest : List Value) (hM : XMv l y ws rm D cl tys n a cf h (.ref (a i) :: As) h1) (cw : CallW R s args own Cn index y bytes maxL ret ws rm 0 0 k) (hstk : stk = As.reverse ++ .ref (a i) :: rest) (hk : As.length = k) (hroom : (rest.map fun v => v.category).sum ≤ 8) (hdg : decode cc pc = .ok (.invokevirtual index, 3)) (kk : XJ p l e R s m args below meth c D cl n a cf nL Q h1 L (rest) (pc + 3)) : XJ p l e R s m args below meth c D cl n a cf nL Q h L stk pc := fun H locs ls hP hS hl =>
  va_callv (va_runV (As := As) (rest := rest) ⟨C.1, C.2.1, C.2.2.2.2.2.2, C.2.2.2.1, C.2.2.1⟩ hM cw ⟨xpc_blind, va_recv C.2.2.2.2.1.1 hP hc (xw_e hi he), fun U hU hW => ⟨rfl, by rw [hU]; exact hP, XK.warm hW C.2.2.2.2.1⟩⟩ rfl hk hl.1 hstk (lv_room hroom) hdg ⟨Nat.zero_le _, Nat.zero_le _⟩) hS (fun _ _ q => q) (fun _ q => q)
    (fun _ _ H1 locs1 ht _ _ hB _ _ hS1 => kk H1 locs1 ls (by rw [← ht]; exact hB) hS1 hl)
theorem xr_callVNi (C : XC p s m args c cc Ts own D cl tys n a nL) {y : MethodName} {ws : List Cond} {rm : Room} {Cn : String} {host : String} {r : Int32} {bytes : ByteArray} {maxL k index : Nat} {ret : Option FieldType} {h1 : hp} {stk : List Value} (i : Nat) (hi : i < n) {ci : Nat} {T : u_T} {N : Nat} {fs : List Value} (he : cf i (h i) = .inr (ci, fs)) (hc : cl[ci]? = some (Cn, T, N)) (As : List Value) (rest : List Value) (hM : XMi l y ws rm D cl tys n a cf h (.ref (a i) :: As) r h1) (cw : va_CN R s args own index y host bytes maxL ret ws rm 0 0 k ∧ (Cond.instanceMethod y).before args s = true ∧ (Cond.selects Cn y y).before args s = true) (hstk : stk = As.reverse ++ .ref (a i) :: rest) (hk : As.length = k) (hroom : (rest.map fun v => v.category).sum ≤ 8) (hdg : decode cc pc = .ok (.invokevirtual index, 3)) (kk : XJ p l e R s m args below meth c D cl n a cf nL Q h1 L (.int r :: rest) (pc + 3)) : XJ p l e R s m args below meth c D cl n a cf nL Q h L stk pc := fun H locs ls hP hS hl =>
  va_calli (va_runVN (As := As) (rest := rest) ⟨C.1, C.2.1, C.2.2.2.2.2.2, C.2.2.2.1, C.2.2.1⟩ hM cw ⟨xpc_blind, va_recv C.2.2.2.2.1.1 hP hc (xw_e hi he), fun U hU hW => ⟨rfl, by rw [hU]; exact hP, XK.warm hW C.2.2.2.2.1⟩⟩ rfl hk hl.1 hstk (lv_room hroom) hdg ⟨Nat.zero_le _, Nat.zero_le _⟩) hS (fun _ _ q => q) (fun _ q => q)
    (fun r9 _ _ H1 locs1 ht _ hr9 hB _ _ hS1 => by
      subst hr9
      exact kk H1 locs1 ls (by rw [← ht]; exact hB) hS1 hl)
theorem xr_callVNv (C : XC p s m args c cc Ts own D cl tys n a nL) {y : MethodName} {ws : List Cond} {rm : Room} {Cn : String} {host : String} {bytes : ByteArray} {maxL k index : Nat} {ret : Option FieldType} {h1 : hp} {stk : List Value} (i : Nat) (hi : i < n) {ci : Nat} {T : u_T} {N : Nat} {fs : List Value} (he : cf i (h i) = .inr (ci, fs)) (hc : cl[ci]? = some (Cn, T, N)) (As : List Value) (rest : List Value) (hM : XMv l y ws rm D cl tys n a cf h (.ref (a i) :: As) h1) (cw : va_CN R s args own index y host bytes maxL ret ws rm 0 0 k ∧ (Cond.instanceMethod y).before args s = true ∧ (Cond.selects Cn y y).before args s = true) (hstk : stk = As.reverse ++ .ref (a i) :: rest) (hk : As.length = k) (hroom : (rest.map fun v => v.category).sum ≤ 8) (hdg : decode cc pc = .ok (.invokevirtual index, 3)) (kk : XJ p l e R s m args below meth c D cl n a cf nL Q h1 L (rest) (pc + 3)) : XJ p l e R s m args below meth c D cl n a cf nL Q h L stk pc := fun H locs ls hP hS hl =>
  va_callv (va_runVN (As := As) (rest := rest) ⟨C.1, C.2.1, C.2.2.2.2.2.2, C.2.2.2.1, C.2.2.1⟩ hM cw ⟨xpc_blind, va_recv C.2.2.2.2.1.1 hP hc (xw_e hi he), fun U hU hW => ⟨rfl, by rw [hU]; exact hP, XK.warm hW C.2.2.2.2.1⟩⟩ rfl hk hl.1 hstk (lv_room hroom) hdg ⟨Nat.zero_le _, Nat.zero_le _⟩) hS (fun _ _ q => q) (fun _ q => q)
    (fun _ _ H1 locs1 ht _ _ hB _ _ hS1 => kk H1 locs1 ls (by rw [← ht]; exact hB) hS1 hl)
theorem xr_callSi (C : XC p s m args c cc Ts own D cl tys n a nL) {y : MethodName} {ws : List Cond} {rm : Room} {r : Int32} {bytes : ByteArray} {maxL k index : Nat} {ret : Option FieldType} {h1 : hp} {stk : List Value} (As : List Value) (rest : List Value) (hM : XMi l y ws rm D cl tys n a cf h As r h1) (cw : CallB R s args own index y bytes maxL ret ws rm 0 0 k ∧ (Cond.static y).before args s = true) (hstk : stk = As.reverse ++ rest) (hk : As.length = k) (hroom : (rest.map fun v => v.category).sum ≤ 8) (hdg : decode cc pc = .ok (.invokestatic index, 3)) (kk : XJ p l e R s m args below meth c D cl n a cf nL Q h1 L (.int r :: rest) (pc + 3)) : XJ p l e R s m args below meth c D cl n a cf nL Q h L stk pc := fun H locs ls hP hS hl =>
  va_calli (va_runS (As := As) (rest := rest) ⟨C.1, C.2.1, C.2.2.2.2.2.2, C.2.2.2.1, C.2.2.1⟩ hM cw ⟨xpc_blind, fun U hU hW => ⟨rfl, by rw [hU]; exact hP, XK.warm hW C.2.2.2.2.1⟩⟩ rfl hk hl.1 hstk (lv_room hroom) hdg ⟨Nat.zero_le _, Nat.zero_le _⟩) hS (fun _ _ q => q) (fun _ q => q)
    (fun r9 _ _ H1 locs1 ht _ hr9 hB _ _ hS1 => by
      subst hr9
      exact kk H1 locs1 ls (by rw [← ht]; exact hB) hS1 hl)
theorem xr_callSv (C : XC p s m args c cc Ts own D cl tys n a nL) {y : MethodName} {ws : List Cond} {rm : Room} {bytes : ByteArray} {maxL k index : Nat} {ret : Option FieldType} {h1 : hp} {stk : List Value} (As : List Value) (rest : List Value) (hM : XMv l y ws rm D cl tys n a cf h As h1) (cw : CallB R s args own index y bytes maxL ret ws rm 0 0 k ∧ (Cond.static y).before args s = true) (hstk : stk = As.reverse ++ rest) (hk : As.length = k) (hroom : (rest.map fun v => v.category).sum ≤ 8) (hdg : decode cc pc = .ok (.invokestatic index, 3)) (kk : XJ p l e R s m args below meth c D cl n a cf nL Q h1 L (rest) (pc + 3)) : XJ p l e R s m args below meth c D cl n a cf nL Q h L stk pc := fun H locs ls hP hS hl =>
  va_callv (va_runS (As := As) (rest := rest) ⟨C.1, C.2.1, C.2.2.2.2.2.2, C.2.2.2.1, C.2.2.1⟩ hM cw ⟨xpc_blind, fun U hU hW => ⟨rfl, by rw [hU]; exact hP, XK.warm hW C.2.2.2.2.1⟩⟩ rfl hk hl.1 hstk (lv_room hroom) hdg ⟨Nat.zero_le _, Nat.zero_le _⟩) hS (fun _ _ q => q) (fun _ q => q)
    (fun _ _ H1 locs1 ht _ _ hB _ _ hS1 => kk H1 locs1 ls (by rw [← ht]; exact hB) hS1 hl)
theorem xr_callSNi (C : XC p s m args c cc Ts own D cl tys n a nL) {y : MethodName} {ws : List Cond} {rm : Room} {host : String} {r : Int32} {bytes : ByteArray} {maxL k index : Nat} {ret : Option FieldType} {h1 : hp} {stk : List Value} (As : List Value) (rest : List Value) (hM : XMi l y ws rm D cl tys n a cf h As r h1) (cw : va_CN R s args own index y host bytes maxL ret ws rm 0 0 k ∧ (Cond.static y).before args s = true ∧ True) (hstk : stk = As.reverse ++ rest) (hk : As.length = k) (hroom : (rest.map fun v => v.category).sum ≤ 8) (hdg : decode cc pc = .ok (.invokestatic index, 3)) (kk : XJ p l e R s m args below meth c D cl n a cf nL Q h1 L (.int r :: rest) (pc + 3)) : XJ p l e R s m args below meth c D cl n a cf nL Q h L stk pc := fun H locs ls hP hS hl =>
  va_calli (va_runSN (As := As) (rest := rest) ⟨C.1, C.2.1, C.2.2.2.2.2.2, C.2.2.2.1, C.2.2.1⟩ hM cw ⟨xpc_blind, fun U hU hW => ⟨rfl, by rw [hU]; exact hP, XK.warm hW C.2.2.2.2.1⟩⟩ rfl hk hl.1 hstk (lv_room hroom) hdg ⟨Nat.zero_le _, Nat.zero_le _⟩) hS (fun _ _ q => q) (fun _ q => q)
    (fun r9 _ _ H1 locs1 ht _ hr9 hB _ _ hS1 => by
      subst hr9
      exact kk H1 locs1 ls (by rw [← ht]; exact hB) hS1 hl)
theorem xr_callSNv (C : XC p s m args c cc Ts own D cl tys n a nL) {y : MethodName} {ws : List Cond} {rm : Room} {host : String} {bytes : ByteArray} {maxL k index : Nat} {ret : Option FieldType} {h1 : hp} {stk : List Value} (As : List Value) (rest : List Value) (hM : XMv l y ws rm D cl tys n a cf h As h1) (cw : va_CN R s args own index y host bytes maxL ret ws rm 0 0 k ∧ (Cond.static y).before args s = true ∧ True) (hstk : stk = As.reverse ++ rest) (hk : As.length = k) (hroom : (rest.map fun v => v.category).sum ≤ 8) (hdg : decode cc pc = .ok (.invokestatic index, 3)) (kk : XJ p l e R s m args below meth c D cl n a cf nL Q h1 L (rest) (pc + 3)) : XJ p l e R s m args below meth c D cl n a cf nL Q h L stk pc := fun H locs ls hP hS hl =>
  va_callv (va_runSN (As := As) (rest := rest) ⟨C.1, C.2.1, C.2.2.2.2.2.2, C.2.2.2.1, C.2.2.1⟩ hM cw ⟨xpc_blind, fun U hU hW => ⟨rfl, by rw [hU]; exact hP, XK.warm hW C.2.2.2.2.1⟩⟩ rfl hk hl.1 hstk (lv_room hroom) hdg ⟨Nat.zero_le _, Nat.zero_le _⟩) hS (fun _ _ q => q) (fun _ q => q)
    (fun _ _ H1 locs1 ht _ _ hB _ _ hS1 => kk H1 locs1 ls (by rw [← ht]; exact hB) hS1 hl)
end XT
theorem xb_z {v : Int32} (h : v = 0 ∨ v = 1) : narrow .boolean (.int v) = .int v ∧ fits .boolean (.int v) = true ∧ vp_nar .boolean v = v := by
  rcases h with rfl | rfl <;> decide +kernel
end
section
/-! THE TWO WORLDS. Class: 0 the box, 1 its machine, 2 registers, 3 memory, 4 keptOuts, 5 inputs, 6 their values, 7 log, 8 positions, 9 kinds, 10 values, 11 snapshots, 12 firstMemory, 13 pageWords, 14 row, 15 + k snapshot k, 55 + k its registers. Reference: 0 itself, 1 first, 2 memory, 3 registers, 4 kept, 5 logAt, 6 logKind, 7 logInput, 8 pagesOf, 9 written, 10 inputs -/
section WORLDS
def kcf (cI cS : ClassId) (a : Nat → Nat) (i : Nat) (r : Nat → Int32) : va_E := match i with
  | 0 => .inr (5, [.int (r 0), .ref (a 1), .ref (a 5), .ref (a 7), .ref (a 11), .int (r 5), .int (r 6), .int (r 7), .int (r 8)])
  | 1 => .inr (2, [.ref (a 2), .ref (a 3), .ref (a 4), .int (r 3), .int (r 4), .int (r 5), .int (r 6), .int (r 7)])
  | 2 => .inl (cI, 8, .inl r)
  | 3 => .inl (cI, 512, .inl r)
  | 4 => .inl (cI, 64, .inl r)
  | 5 => .inr (0, [.ref (a 6), .int (r 1), .int (r 2)])
  | 6 => .inl (cI, 100, .inl r)
  | 7 => .inr (1, [.ref (a 8), .ref (a 9), .ref (a 10), .int (r 3)])
  | 8 => .inl (cI, 300, .inl r)
  | 9 => .inl (cI, 300, .inl r)
  | 10 => .inl (cI, 300, .inl r)
  | 11 => .inr (4, [.ref (a 12), .ref (a 13), .ref (a 14), .int (r 3), .int (r 4)])
  | 12 => .inl (cI, 512, .inl r)
  | 13 => .inl (cI, 4800, .inl r)
  | 14 => .inl (cS, 40, .inr (.inr (.inr (.inr (fun k => some (a (k + 15)))))))
  | k + 15 => if k < 40 then .inr (3, [.ref (a (k + 55)), .int (r 1), .int (r 2), .int (r 3), .int (r 4), .int (r 5), .int (r 6)]) else .inl (cI, 8, .inl r)
theorem kcf_hi {cI cS : ClassId} {a : Nat → Nat} {r : Nat → Int32} (k : Nat) : kcf cI cS a (k + 15) r = if k < 40 then .inr (3, [.ref (a (k + 55)), .int (r 1), .int (r 2), .int (r 3), .int (r 4), .int (r 5), .int (r 6)]) else .inl (cI, 8, .inl r) := rfl
theorem kcf_snap {cI cS : ClassId} {a : Nat → Nat} {k : Nat} {r : Nat → Int32} (hk : k < 40) : kcf cI cS a (k + 15) r = .inr (3, [.ref (a (k + 55)), .int (r 1), .int (r 2), .int (r 3), .int (r 4), .int (r 5), .int (r 6)]) := if_pos hk
theorem kcf_regs {cI cS : ClassId} {a : Nat → Nat} {k : Nat} (r : Nat → Int32) : kcf cI cS a (k + 55) r = .inl (cI, 8, .inl r) := by
  have e := kcf_hi (cI := cI) (cS := cS) (a := a) (r := r) (k + 40)
  rw [if_neg (by omega)] at e
  exact e
theorem kid_s {k : Nat} (hk : k < 40) : k + 15 < 95 := by omega
theorem kid_r {k : Nat} (hk : k < 40) : k + 55 < 95 := by omega
def kty (cI cS : ClassId) : xT := ([(cI, .int), (cS, .object "RewindBox$Snapshot")], [(RX2, 58, yX5_placeOf, "RewindBox")])
def mcf (cI cZ : ClassId) (a : Nat → Nat) (i : Nat) (r : Nat → Int32) : va_E := match i with
  | 0 => .inr (6, [.int (r 0), .ref (a 1), .ref (a 2), .ref (a 3), .int (r 4), .int (r 5), .int (r 6), .ref (a 4), .int (r 8), .int (r 9), .int (r 10), .int (r 11), .ref (a 5), .ref (a 6), .ref (a 7), .int (r 15), .int (r 16), .int (r 17), .ref (a 8), .ref (a 9), .ref (a 10), .int (r 21), .int (r 22)])
  | 1 => .inl (cI, 512, .inl r)
  | 2 => .inl (cI, 512, .inl r)
  | 3 => .inl (cI, 8, .inl r)
  | 4 => .inl (cI, 64, .inl r)
  | 5 => .inl (cI, 300, .inl r)
  | 6 => .inl (cI, 300, .inl r)
  | 7 => .inl (cI, 300, .inl r)
  | 8 => .inl (cI, 40, .inl r)
  | 9 => .inl (cZ, 32, .inl r)
  | _ => .inl (cI, 100, .inl r)
def mty (cI cZ : ClassId) : xT := ([(cI, .int), (cZ, .boolean)], [])
end WORLDS
end
section
def f_J6_bitCount_0f7a4 (x0 : Int32) : Int32 := gl (x0 - (((x0.toUInt32 >>> ((1 : Int32).toUInt32 &&& Int32.toUInt32 31)).toInt32) &&& 1431655765)) (fun v1 => gl ((v1 &&& 858993459) + (((v1.toUInt32 >>> ((2 : Int32).toUInt32 &&& Int32.toUInt32 31)).toInt32) &&& 858993459)) (fun v2 => gl ((v2 + ((v2.toUInt32 >>> ((4 : Int32).toUInt32 &&& Int32.toUInt32 31)).toInt32)) &&& 252645135) (fun v3 => gl (v3 + ((v3.toUInt32 >>> ((8 : Int32).toUInt32 &&& Int32.toUInt32 31)).toInt32)) (fun v4 => gl (v4 + ((v4.toUInt32 >>> ((16 : Int32).toUInt32 &&& Int32.toUInt32 31)).toInt32)) (fun v5 => (v5 &&& 63))))))
abbrev rmJ6_bitCount_0f7a4 : Room := { frames := 0, cells := 0, slots := 0, locals := 0 }
set_option maxHeartbeats 4000000 in
set_option maxRecDepth 100000 in
theorem c_J6_bitCount_0f7a4 (l : Launch) (dC : Nat → ClassId) (dI : Nat → Nat → Nat) (cI cS : ClassId) (a : Nat → Nat) (hD : xD 95 a) (h0 : hp) (x0 : Int32) {r9 : Int32} (hf : f_J6_bitCount_0f7a4 x0 = r9) : XMi l yJ6_bitCount_0f7a4 wsJ6_bitCount_0f7a4 rmJ6_bitCount_0f7a4 (dC, dI) vwCl (kty cI cS) 95 a (kcf cI cS a) h0 [.int x0] r9 h0 := by
  refine xm_i (cc := cJ6_bitCount_0f7a4) (maxL := 1) (ws' := wsJ6_bitCount_0f7a4.tail) (by decide) rfl hD (Nat.le_of_ble_eq_true rfl) [(0, .int x0)] rfl RJ6 rfl ?_
  intro p e s m args below meth c C hlk hr
  unfold f_J6_bitCount_0f7a4 at hf
  refine xr_iload_n C dJ6_bitCount_0f7a4_0 0 rfl rfl ?_
  refine xr_iload_n C dJ6_bitCount_0f7a4_1 0 rfl rfl ?_
  refine xr_iconst C (v := 1) dJ6_bitCount_0f7a4_2 (by decide +kernel) ?_
  refine xr_iushr C dJ6_bitCount_0f7a4_3 ?_
  refine xr_ldcw C (v := 1431655765) dJ6_bitCount_0f7a4_4 (by decide +kernel) ?_
  refine xr_iand C dJ6_bitCount_0f7a4_7 ?_
  refine xr_isub C dJ6_bitCount_0f7a4_8 ?_
  refine xr_topi C (fun v1 ev1 => ?_)
  have hf := gl_at hf v1 ev1
  refine xr_istore_n C [(0, .int v1)] dJ6_bitCount_0f7a4_9 rfl (by decide) rfl ?_
  refine xr_iload_n C dJ6_bitCount_0f7a4_10 0 rfl rfl ?_
  refine xr_ldcw C (v := 858993459) dJ6_bitCount_0f7a4_11 (by decide +kernel) ?_
  refine xr_iand C dJ6_bitCount_0f7a4_14 ?_
  refine xr_iload_n C dJ6_bitCount_0f7a4_15 0 rfl rfl ?_
  refine xr_iconst C (v := 2) dJ6_bitCount_0f7a4_16 (by decide +kernel) ?_
  refine xr_iushr C dJ6_bitCount_0f7a4_17 ?_
  refine xr_ldcw C (v := 858993459) dJ6_bitCount_0f7a4_18 (by decide +kernel) ?_
  refine xr_iand C dJ6_bitCount_0f7a4_21 ?_
  refine xr_iadd C dJ6_bitCount_0f7a4_22 ?_
  refine xr_topi C (fun v2 ev2 => ?_)
  have hf := gl_at hf v2 ev2
  refine xr_istore_n C [(0, .int v2)] dJ6_bitCount_0f7a4_23 rfl (by decide) rfl ?_
  refine xr_iload_n C dJ6_bitCount_0f7a4_24 0 rfl rfl ?_
  refine xr_iload_n C dJ6_bitCount_0f7a4_25 0 rfl rfl ?_
  refine xr_iconst C (v := 4) dJ6_bitCount_0f7a4_26 (by decide +kernel) ?_
  refine xr_iushr C dJ6_bitCount_0f7a4_27 ?_
  refine xr_iadd C dJ6_bitCount_0f7a4_28 ?_
  refine xr_ldcw C (v := 252645135) dJ6_bitCount_0f7a4_29 (by decide +kernel) ?_
  refine xr_iand C dJ6_bitCount_0f7a4_32 ?_
  refine xr_topi C (fun v3 ev3 => ?_)
  have hf := gl_at hf v3 ev3
  refine xr_istore_n C [(0, .int v3)] dJ6_bitCount_0f7a4_33 rfl (by decide) rfl ?_
  refine xr_iload_n C dJ6_bitCount_0f7a4_34 0 rfl rfl ?_
  refine xr_iload_n C dJ6_bitCount_0f7a4_35 0 rfl rfl ?_
  refine xr_bipush C (v := 8) dJ6_bitCount_0f7a4_36 (by decide +kernel) ?_
  refine xr_iushr C dJ6_bitCount_0f7a4_38 ?_
  refine xr_iadd C dJ6_bitCount_0f7a4_39 ?_
  refine xr_topi C (fun v4 ev4 => ?_)
  have hf := gl_at hf v4 ev4
  refine xr_istore_n C [(0, .int v4)] dJ6_bitCount_0f7a4_40 rfl (by decide) rfl ?_
  refine xr_iload_n C dJ6_bitCount_0f7a4_41 0 rfl rfl ?_
  refine xr_iload_n C dJ6_bitCount_0f7a4_42 0 rfl rfl ?_
  refine xr_bipush C (v := 16) dJ6_bitCount_0f7a4_43 (by decide +kernel) ?_
  refine xr_iushr C dJ6_bitCount_0f7a4_45 ?_
  refine xr_iadd C dJ6_bitCount_0f7a4_46 ?_
  refine xr_topi C (fun v5 ev5 => ?_)
  have hf := gl_at hf v5 ev5
  refine xr_istore_n C [(0, .int v5)] dJ6_bitCount_0f7a4_47 rfl (by decide) rfl ?_
  refine xr_iload_n C dJ6_bitCount_0f7a4_48 0 rfl rfl ?_
  refine xr_bipush C (v := 63) dJ6_bitCount_0f7a4_49 (by decide +kernel) ?_
  refine xr_iand C dJ6_bitCount_0f7a4_51 ?_
  subst hf
  exact xr_iret C hlk hr dJ6_bitCount_0f7a4_52
def f_J7_fill_53178_5 : Nat → hp → Int32 → Int32 → Int32 → Option hp
  | 0, _, _, _, _ => none
  | n + 1, h, x1, x2, x3 => if x3 ≤ x2 then (some h) else (gd (¬ (x2 < 0 ∨ 8 ≤ x2.toNatClampNeg)) (f_J7_fill_53178_5 n (u2 h 2 x2.toNatClampNeg x1) x1 (x2 + 1) x3))
def f_J7_fill_53178 (h : hp) (x1 : Int32) : Option hp := f_J7_fill_53178_5 1000 h x1 0 8
abbrev rmJ7_fill_53178 : Room := { frames := 0, cells := 0, slots := 0, locals := 0 }
set_option maxHeartbeats 4000000 in
set_option maxRecDepth 100000 in
theorem c_J7_fill_53178 (l : Launch) (dC : Nat → ClassId) (dI : Nat → Nat → Nat) (cI cS : ClassId) (a : Nat → Nat) (hD : xD 95 a) (h : hp) (x1 : Int32) {h9 : hp} (hf : f_J7_fill_53178 h x1 = some h9) : XMv l yJ7_fill_53178 wsJ7_fill_53178 rmJ7_fill_53178 (dC, dI) vwCl (kty cI cS) 95 a (kcf cI cS a) h [.ref (a 2), .int x1] h9 := by
  refine xm_v (cc := cJ7_fill_53178) (maxL := 4) (ws' := wsJ7_fill_53178.tail) (by decide) rfl hD (Nat.le_of_ble_eq_true rfl) [(0, .ref (a 2)), (1, .int x1)] rfl RJ7 rfl ?_
  intro p e s m args below meth c C hlk hr
  have lab5 : ∀ (n : Nat) (h : hp) (x1 : Int32) (x2 : Int32) (x3 : Int32) , f_J7_fill_53178_5 n h x1 x2 x3 = some h9 → XJ p l e rmJ7_fill_53178 s m args below meth c (dC, dI) vwCl 95 a (kcf cI cS a) 4 (MQ below (XQv (dC, dI) vwCl 95 a (kcf cI cS a) h9) args s 0 0 (xA 95 a)) h [(0, .ref (a 2)), (1, .int x1), (2, .int x2), (3, .int x3)] [] 5 := by
    intro n
    induction n with
    | zero => intro h x1 x2 x3  hf; simp [f_J7_fill_53178_5] at hf
    | succ n ih =>
      intro h x1 x2 x3  hf
      rw [f_J7_fill_53178_5] at hf
      refine xr_iload_n C dJ7_fill_53178_5 2 rfl rfl ?_
      refine xr_iload_n C dJ7_fill_53178_6 3 rfl rfl ?_
      refine xr_icmp_ge C 20 dJ7_fill_53178_7 (by decide) (fun cd1 => ?_) (fun cd1 => ?_)
      · rw [if_pos cd1] at hf
        cases hf
        exact xr_vret C hlk hr dJ7_fill_53178_20
      · rw [if_neg cd1] at hf
        refine xr_aload_n C dJ7_fill_53178_10 0 rfl rfl ?_
        refine xr_iload_n C dJ7_fill_53178_11 2 rfl rfl ?_
        refine xr_iload_n C dJ7_fill_53178_12 1 rfl rfl ?_
        obtain ⟨gg2, hf⟩ := gd_some hf
        refine xr_iast C 2 (by decide) 0 (fun _ => rfl) rfl gg2 dJ7_fill_53178_13 ?_
        refine xr_iinc C [(2, .int (x2 + 1)), (0, .ref (a 2)), (1, .int x1), (3, .int x3)] dJ7_fill_53178_14 2 rfl rfl (by decide) rfl ?_
        refine xr_goto C 5 dJ7_fill_53178_17 (by decide) ?_
        exact xr_sub C [1, 2, 0, 3] rfl (ih (u2 h 2 x2.toNatClampNeg x1) x1 (x2 + 1) x3  hf)
  unfold f_J7_fill_53178 at hf
  refine xr_iconst C (v := 0) dJ7_fill_53178_0 (by decide +kernel) ?_
  refine xr_istore_n C [(2, .int 0), (0, .ref (a 2)), (1, .int x1)] dJ7_fill_53178_1 rfl (by decide) rfl ?_
  refine xr_aload_n C dJ7_fill_53178_2 1 rfl rfl ?_
  refine xr_alen C (v := 8) 2 (by decide) 0 rfl rfl rfl dJ7_fill_53178_3 ?_
  refine xr_istore_n C [(3, .int 8), (2, .int 0), (0, .ref (a 2)), (1, .int x1)] dJ7_fill_53178_4 rfl (by decide) rfl ?_
  exact xr_sub C [2, 3, 1, 0] rfl (lab5 1000 h x1 0 8  hf)
def f_X5_isPlace (x0 : Int32) : Int32 := if x0 < 0 then ((0 : Int32)) else (if 512 ≤ x0 then ((0 : Int32)) else ((1 : Int32)))
abbrev rmX5_isPlace : Room := { frames := 0, cells := 0, slots := 0, locals := 0 }
set_option maxHeartbeats 4000000 in
set_option maxRecDepth 100000 in
theorem c_X5_isPlace (l : Launch) (dC : Nat → ClassId) (dI : Nat → Nat → Nat) (cI cS : ClassId) (a : Nat → Nat) (hD : xD 95 a) (h0 : hp) (x0 : Int32) {r9 : Int32} (hf : f_X5_isPlace x0 = r9) : XMi l yX5_isPlace wsX5_isPlace rmX5_isPlace (dC, dI) vwCl (kty cI cS) 95 a (kcf cI cS a) h0 [.int x0] r9 h0 := by
  refine xm_i (cc := cX5_isPlace) (maxL := 1) (ws' := wsX5_isPlace.tail) (by decide) rfl hD (Nat.le_of_ble_eq_true rfl) [(0, .int x0)] rfl RX5 rfl ?_
  intro p e s m args below meth c C hlk hr
  unfold f_X5_isPlace at hf
  refine xr_iload_n C dX5_isPlace_0 0 rfl rfl ?_
  refine xr_if_lt C 15 dX5_isPlace_1 (by decide) (fun cd1 => ?_) (fun cd1 => ?_)
  · rw [if_pos cd1] at hf
    refine xr_iconst C (v := 0) dX5_isPlace_15 (by decide +kernel) ?_
    subst hf
    exact xr_zret C hlk hr (by decide +kernel) dX5_isPlace_16
  · rw [if_neg cd1] at hf
    refine xr_iload_n C dX5_isPlace_4 0 rfl rfl ?_
    refine xr_sipush C (v := 512) dX5_isPlace_5 (by decide +kernel) ?_
    refine xr_icmp_ge C 15 dX5_isPlace_8 (by decide) (fun cd2 => ?_) (fun cd2 => ?_)
    · rw [if_pos cd2] at hf
      refine xr_iconst C (v := 0) dX5_isPlace_15 (by decide +kernel) ?_
      subst hf
      exact xr_zret C hlk hr (by decide +kernel) dX5_isPlace_16
    · rw [if_neg cd2] at hf
      refine xr_iconst C (v := 1) dX5_isPlace_11 (by decide +kernel) ?_
      refine xr_goto C 16 dX5_isPlace_12 (by decide) ?_
      subst hf
      exact xr_zret C hlk hr (by decide +kernel) dX5_isPlace_16
def f_X5_placeOf (x0 : Int32) : Int32 := (x0 &&& 511)
abbrev rmX5_placeOf : Room := { frames := 0, cells := 0, slots := 0, locals := 0 }
set_option maxHeartbeats 4000000 in
set_option maxRecDepth 100000 in
theorem c_X5_placeOf (l : Launch) (dC : Nat → ClassId) (dI : Nat → Nat → Nat) (cI cS : ClassId) (a : Nat → Nat) (hD : xD 95 a) (h0 : hp) (x0 : Int32) {r9 : Int32} (hf : f_X5_placeOf x0 = r9) : XMi l yX5_placeOf wsX5_placeOf rmX5_placeOf (dC, dI) vwCl (kty cI cS) 95 a (kcf cI cS a) h0 [.int x0] r9 h0 := by
  refine xm_i (cc := cX5_placeOf) (maxL := 1) (ws' := wsX5_placeOf.tail) (by decide) rfl hD (Nat.le_of_ble_eq_true rfl) [(0, .int x0)] rfl RX5 rfl ?_
  intro p e s m args below meth c C hlk hr
  unfold f_X5_placeOf at hf
  refine xr_iload_n C dX5_placeOf_0 0 rfl rfl ?_
  refine xr_sipush C (v := 511) dX5_placeOf_1 (by decide +kernel) ?_
  refine xr_iand C dX5_placeOf_4 ?_
  subst hf
  exact xr_iret C hlk hr dX5_placeOf_5
def f_X2_reset (h : hp)  : Option hp := bV (f_J7_fill_53178 h 0) (fun hh2 => some (u2 (u2 (u2 (u2 (u2 hh2 1 3 0) 1 4 0) 1 5 0) 1 6 0) 1 7 0))
abbrev rmX2_reset : Room := { frames := 1, cells := 0, slots := 0, locals := 23 }
set_option maxHeartbeats 4000000 in
set_option maxRecDepth 100000 in
theorem c_X2_reset (l : Launch) (dC : Nat → ClassId) (dI : Nat → Nat → Nat) (cI cS : ClassId) (a : Nat → Nat) (hD : xD 95 a) (h : hp)  {h9 : hp} (hf : f_X2_reset h  = some h9) : XMv l yX2_reset wsX2_reset rmX2_reset (dC, dI) vwCl (kty cI cS) 95 a (kcf cI cS a) h [.ref (a 1)] h9 := by
  refine xm_v (cc := cX2_reset) (maxL := 1) (ws' := wsX2_reset.tail) (by decide) rfl hD (Nat.le_of_ble_eq_true rfl) [(0, .ref (a 1))] rfl RX2 rfl ?_
  intro p e s m args below meth c C hlk hr
  have wl9 : Cond.fieldLink RX2 9 "RewindBox$Machine" "registers" "[I" ∈ wsX2_reset := by decide +kernel
  have wnX2 : ∀ w ∈ u_ws RX2 TX2 8, w ∈ wsX2_reset := by decide +kernel
  have wl27 : Cond.fieldLink RX2 27 "RewindBox$Machine" "pc" "I" ∈ wsX2_reset := by decide +kernel
  have wl31 : Cond.fieldLink RX2 31 "RewindBox$Machine" "back" "I" ∈ wsX2_reset := by decide +kernel
  have wl34 : Cond.fieldLink RX2 34 "RewindBox$Machine" "open" "Z" ∈ wsX2_reset := by decide +kernel
  have wl38 : Cond.fieldLink RX2 38 "RewindBox$Machine" "outCount" "I" ∈ wsX2_reset := by decide +kernel
  have wl41 : Cond.fieldLink RX2 41 "RewindBox$Machine" "written" "I" ∈ wsX2_reset := by decide +kernel
  unfold f_X2_reset at hf
  refine xr_aload_n C dX2_reset_0 0 rfl rfl ?_
  refine xr_get C (ci := 2) (Cn := RX2) (T := TX2) (N := 8) (v := .ref (a 2)) 1 (by decide) rfl rfl 0 (by decide) wnX2 wl9 rfl rfl dX2_reset_1 ?_
  refine xr_iconst C (v := 0) dX2_reset_4 (by decide +kernel) ?_
  obtain ⟨hh2, ee1, hf⟩ := bV_some hf
  refine xr_callSv C [.ref (a 2), .int 0] [] (c_J7_fill_53178 l dC dI cI cS a hD h 0 ee1) (va_cwS 2 C.2.2.1 gX2_reset_J7_fill_53178 rfl rfl rfl (by decide +kernel) ⟨Nat.le_of_ble_eq_true rfl, Nat.le_of_ble_eq_true rfl⟩) rfl rfl (Nat.le_of_ble_eq_true rfl) dX2_reset_5 ?_
  refine xr_aload_n C dX2_reset_8 0 rfl rfl ?_
  refine xr_iconst C (v := 0) dX2_reset_9 (by decide +kernel) ?_
  refine xr_put C (ci := 2) (Cn := RX2) (T := TX2) (N := 8) (ty := .int) (v := 0) 1 (by decide) rfl rfl 3 (by decide) wnX2 wl27 rfl tyX2 tyX2_ok nmX2 rfl (by decide +kernel) rfl rfl (Nat.le_of_ble_eq_true rfl) rfl dX2_reset_10 ?_
  refine xr_aload_n C dX2_reset_13 0 rfl rfl ?_
  refine xr_iconst C (v := 0) dX2_reset_14 (by decide +kernel) ?_
  refine xr_put C (ci := 2) (Cn := RX2) (T := TX2) (N := 8) (ty := .int) (v := 0) 1 (by decide) rfl rfl 4 (by decide) wnX2 wl31 rfl tyX2 tyX2_ok nmX2 rfl (by decide +kernel) rfl rfl (Nat.le_of_ble_eq_true rfl) rfl dX2_reset_15 ?_
  refine xr_aload_n C dX2_reset_18 0 rfl rfl ?_
  refine xr_iconst C (v := 0) dX2_reset_19 (by decide +kernel) ?_
  refine xr_put C (ci := 2) (Cn := RX2) (T := TX2) (N := 8) (ty := .boolean) (v := 0) 1 (by decide) rfl rfl 5 (by decide) wnX2 wl34 rfl tyX2 tyX2_ok nmX2 rfl (by decide +kernel) (by decide +kernel) (by decide +kernel) (Nat.le_of_ble_eq_true rfl) rfl dX2_reset_20 ?_
  refine xr_aload_n C dX2_reset_23 0 rfl rfl ?_
  refine xr_iconst C (v := 0) dX2_reset_24 (by decide +kernel) ?_
  refine xr_put C (ci := 2) (Cn := RX2) (T := TX2) (N := 8) (ty := .int) (v := 0) 1 (by decide) rfl rfl 6 (by decide) wnX2 wl38 rfl tyX2 tyX2_ok nmX2 rfl (by decide +kernel) rfl rfl (Nat.le_of_ble_eq_true rfl) rfl dX2_reset_25 ?_
  refine xr_aload_n C dX2_reset_28 0 rfl rfl ?_
  refine xr_iconst C (v := 0) dX2_reset_29 (by decide +kernel) ?_
  refine xr_put C (ci := 2) (Cn := RX2) (T := TX2) (N := 8) (ty := .int) (v := 0) 1 (by decide) rfl rfl 7 (by decide) wnX2 wl41 rfl tyX2 tyX2_ok nmX2 rfl (by decide +kernel) rfl rfl (Nat.le_of_ble_eq_true rfl) rfl dX2_reset_30 ?_
  cases hf
  exact xr_vret C hlk hr dX2_reset_33
def f_X2_nextOp (h0 : hp)  : Option Int32 := gd (¬ ((h0 1 3) < 0 ∨ 512 ≤ (h0 1 3).toNatClampNeg)) (some (((h0 3 (h0 1 3).toNatClampNeg).toUInt32 >>> ((24 : Int32).toUInt32 &&& Int32.toUInt32 31)).toInt32))
abbrev rmX2_nextOp : Room := { frames := 0, cells := 0, slots := 0, locals := 0 }
set_option maxHeartbeats 4000000 in
set_option maxRecDepth 100000 in
theorem c_X2_nextOp (l : Launch) (dC : Nat → ClassId) (dI : Nat → Nat → Nat) (cI cS : ClassId) (a : Nat → Nat) (hD : xD 95 a) (h0 : hp)  {r9 : Int32} (hf : f_X2_nextOp h0  = some r9) : XMi l yX2_nextOp wsX2_nextOp rmX2_nextOp (dC, dI) vwCl (kty cI cS) 95 a (kcf cI cS a) h0 [.ref (a 1)] r9 h0 := by
  refine xm_i (cc := cX2_nextOp) (maxL := 1) (ws' := wsX2_nextOp.tail) (by decide) rfl hD (Nat.le_of_ble_eq_true rfl) [(0, .ref (a 1))] rfl RX2 rfl ?_
  intro p e s m args below meth c C hlk hr
  have wl15 : Cond.fieldLink RX2 15 "RewindBox$Machine" "memory" "[I" ∈ wsX2_nextOp := by decide +kernel
  have wnX2 : ∀ w ∈ u_ws RX2 TX2 8, w ∈ wsX2_nextOp := by decide +kernel
  have wl27 : Cond.fieldLink RX2 27 "RewindBox$Machine" "pc" "I" ∈ wsX2_nextOp := by decide +kernel
  unfold f_X2_nextOp at hf
  refine xr_aload_n C dX2_nextOp_0 0 rfl rfl ?_
  refine xr_get C (ci := 2) (Cn := RX2) (T := TX2) (N := 8) (v := .ref (a 3)) 1 (by decide) rfl rfl 1 (by decide) wnX2 wl15 rfl rfl dX2_nextOp_1 ?_
  refine xr_aload_n C dX2_nextOp_4 0 rfl rfl ?_
  refine xr_get C (ci := 2) (Cn := RX2) (T := TX2) (N := 8) (v := .int (h0 1 3)) 1 (by decide) rfl rfl 3 (by decide) wnX2 wl27 rfl rfl dX2_nextOp_5 ?_
  obtain ⟨gg1, hf⟩ := gd_some hf
  refine xr_iald C (v := h0 3 (h0 1 3).toNatClampNeg) 3 (by decide) 0 rfl rfl gg1 rfl dX2_nextOp_8 ?_
  refine xr_bipush C (v := 24) dX2_nextOp_9 (by decide +kernel) ?_
  refine xr_iushr C dX2_nextOp_11 ?_
  cases hf
  exact xr_iret C hlk hr dX2_nextOp_12
def f_X2_pageBit (x0 : Int32) : Int32 := ((1 : Int32) <<< ((x0 / 16) &&& 31))
abbrev rmX2_pageBit : Room := { frames := 0, cells := 0, slots := 0, locals := 0 }
set_option maxHeartbeats 4000000 in
set_option maxRecDepth 100000 in
theorem c_X2_pageBit (l : Launch) (dC : Nat → ClassId) (dI : Nat → Nat → Nat) (cI cS : ClassId) (a : Nat → Nat) (hD : xD 95 a) (h0 : hp) (x0 : Int32) {r9 : Int32} (hf : f_X2_pageBit x0 = r9) : XMi l yX2_pageBit wsX2_pageBit rmX2_pageBit (dC, dI) vwCl (kty cI cS) 95 a (kcf cI cS a) h0 [.int x0] r9 h0 := by
  refine xm_i (cc := cX2_pageBit) (maxL := 1) (ws' := wsX2_pageBit.tail) (by decide) rfl hD (Nat.le_of_ble_eq_true rfl) [(0, .int x0)] rfl RX2 rfl ?_
  intro p e s m args below meth c C hlk hr
  unfold f_X2_pageBit at hf
  refine xr_iconst C (v := 1) dX2_pageBit_0 (by decide +kernel) ?_
  refine xr_iload_n C dX2_pageBit_1 0 rfl rfl ?_
  refine xr_bipush C (v := 16) dX2_pageBit_2 (by decide +kernel) ?_
  refine xr_idiv C dX2_pageBit_4 (by decide) ?_
  refine xr_ishl C dX2_pageBit_5 ?_
  subst hf
  exact xr_iret C hlk hr dX2_pageBit_6
def f_X2_fieldA (x0 : Int32) : Int32 := ((x0 >>> (16 &&& 31)) &&& 7)
abbrev rmX2_fieldA : Room := { frames := 0, cells := 0, slots := 0, locals := 0 }
set_option maxHeartbeats 4000000 in
set_option maxRecDepth 100000 in
theorem c_X2_fieldA (l : Launch) (dC : Nat → ClassId) (dI : Nat → Nat → Nat) (cI cS : ClassId) (a : Nat → Nat) (hD : xD 95 a) (h0 : hp) (x0 : Int32) {r9 : Int32} (hf : f_X2_fieldA x0 = r9) : XMi l yX2_fieldA wsX2_fieldA rmX2_fieldA (dC, dI) vwCl (kty cI cS) 95 a (kcf cI cS a) h0 [.int x0] r9 h0 := by
  refine xm_i (cc := cX2_fieldA) (maxL := 1) (ws' := wsX2_fieldA.tail) (by decide) rfl hD (Nat.le_of_ble_eq_true rfl) [(0, .int x0)] rfl RX2 rfl ?_
  intro p e s m args below meth c C hlk hr
  unfold f_X2_fieldA at hf
  refine xr_iload_n C dX2_fieldA_0 0 rfl rfl ?_
  refine xr_bipush C (v := 16) dX2_fieldA_1 (by decide +kernel) ?_
  refine xr_ishr C dX2_fieldA_3 ?_
  refine xr_bipush C (v := 7) dX2_fieldA_4 (by decide +kernel) ?_
  refine xr_iand C dX2_fieldA_6 ?_
  subst hf
  exact xr_iret C hlk hr dX2_fieldA_7
def f_X2_fieldB (x0 : Int32) : Int32 := ((x0 >>> (8 &&& 31)) &&& 7)
abbrev rmX2_fieldB : Room := { frames := 0, cells := 0, slots := 0, locals := 0 }
set_option maxHeartbeats 4000000 in
set_option maxRecDepth 100000 in
theorem c_X2_fieldB (l : Launch) (dC : Nat → ClassId) (dI : Nat → Nat → Nat) (cI cS : ClassId) (a : Nat → Nat) (hD : xD 95 a) (h0 : hp) (x0 : Int32) {r9 : Int32} (hf : f_X2_fieldB x0 = r9) : XMi l yX2_fieldB wsX2_fieldB rmX2_fieldB (dC, dI) vwCl (kty cI cS) 95 a (kcf cI cS a) h0 [.int x0] r9 h0 := by
  refine xm_i (cc := cX2_fieldB) (maxL := 1) (ws' := wsX2_fieldB.tail) (by decide) rfl hD (Nat.le_of_ble_eq_true rfl) [(0, .int x0)] rfl RX2 rfl ?_
  intro p e s m args below meth c C hlk hr
  unfold f_X2_fieldB at hf
  refine xr_iload_n C dX2_fieldB_0 0 rfl rfl ?_
  refine xr_bipush C (v := 8) dX2_fieldB_1 (by decide +kernel) ?_
  refine xr_ishr C dX2_fieldB_3 ?_
  refine xr_bipush C (v := 7) dX2_fieldB_4 (by decide +kernel) ?_
  refine xr_iand C dX2_fieldB_6 ?_
  subst hf
  exact xr_iret C hlk hr dX2_fieldB_7
def f_X2_fieldC (x0 : Int32) : Int32 := (x0 &&& 7)
abbrev rmX2_fieldC : Room := { frames := 0, cells := 0, slots := 0, locals := 0 }
set_option maxHeartbeats 4000000 in
set_option maxRecDepth 100000 in
theorem c_X2_fieldC (l : Launch) (dC : Nat → ClassId) (dI : Nat → Nat → Nat) (cI cS : ClassId) (a : Nat → Nat) (hD : xD 95 a) (h0 : hp) (x0 : Int32) {r9 : Int32} (hf : f_X2_fieldC x0 = r9) : XMi l yX2_fieldC wsX2_fieldC rmX2_fieldC (dC, dI) vwCl (kty cI cS) 95 a (kcf cI cS a) h0 [.int x0] r9 h0 := by
  refine xm_i (cc := cX2_fieldC) (maxL := 1) (ws' := wsX2_fieldC.tail) (by decide) rfl hD (Nat.le_of_ble_eq_true rfl) [(0, .int x0)] rfl RX2 rfl ?_
  intro p e s m args below meth c C hlk hr
  unfold f_X2_fieldC at hf
  refine xr_iload_n C dX2_fieldC_0 0 rfl rfl ?_
  refine xr_bipush C (v := 7) dX2_fieldC_1 (by decide +kernel) ?_
  refine xr_iand C dX2_fieldC_3 ?_
  subst hf
  exact xr_iret C hlk hr dX2_fieldC_4
def f_X2_signedByte (x0 : Int32) : Int32 := x0.toInt8.toInt32
abbrev rmX2_signedByte : Room := { frames := 0, cells := 0, slots := 0, locals := 0 }
set_option maxHeartbeats 4000000 in
set_option maxRecDepth 100000 in
theorem c_X2_signedByte (l : Launch) (dC : Nat → ClassId) (dI : Nat → Nat → Nat) (cI cS : ClassId) (a : Nat → Nat) (hD : xD 95 a) (h0 : hp) (x0 : Int32) {r9 : Int32} (hf : f_X2_signedByte x0 = r9) : XMi l yX2_signedByte wsX2_signedByte rmX2_signedByte (dC, dI) vwCl (kty cI cS) 95 a (kcf cI cS a) h0 [.int x0] r9 h0 := by
  refine xm_i (cc := cX2_signedByte) (maxL := 1) (ws' := wsX2_signedByte.tail) (by decide) rfl hD (Nat.le_of_ble_eq_true rfl) [(0, .int x0)] rfl RX2 rfl ?_
  intro p e s m args below meth c C hlk hr
  unfold f_X2_signedByte at hf
  refine xr_iload_n C dX2_signedByte_0 0 rfl rfl ?_
  refine xr_i2b C dX2_signedByte_1 ?_
  subst hf
  exact xr_iret C hlk hr dX2_signedByte_2
def f_X2_signedHalf (x0 : Int32) : Int32 := x0.toInt16.toInt32
abbrev rmX2_signedHalf : Room := { frames := 0, cells := 0, slots := 0, locals := 0 }
set_option maxHeartbeats 4000000 in
set_option maxRecDepth 100000 in
theorem c_X2_signedHalf (l : Launch) (dC : Nat → ClassId) (dI : Nat → Nat → Nat) (cI cS : ClassId) (a : Nat → Nat) (hD : xD 95 a) (h0 : hp) (x0 : Int32) {r9 : Int32} (hf : f_X2_signedHalf x0 = r9) : XMi l yX2_signedHalf wsX2_signedHalf rmX2_signedHalf (dC, dI) vwCl (kty cI cS) 95 a (kcf cI cS a) h0 [.int x0] r9 h0 := by
  refine xm_i (cc := cX2_signedHalf) (maxL := 1) (ws' := wsX2_signedHalf.tail) (by decide) rfl hD (Nat.le_of_ble_eq_true rfl) [(0, .int x0)] rfl RX2 rfl ?_
  intro p e s m args below meth c C hlk hr
  unfold f_X2_signedHalf at hf
  refine xr_iload_n C dX2_signedHalf_0 0 rfl rfl ?_
  refine xr_i2s C dX2_signedHalf_1 ?_
  subst hf
  exact xr_iret C hlk hr dX2_signedHalf_2
def f_X2_target (h0 : hp) (x1 : Int32) : Option Int32 := gd (¬ ((f_X2_fieldB x1) < 0 ∨ 8 ≤ (f_X2_fieldB x1).toNatClampNeg)) (some (f_X5_placeOf ((h0 2 (f_X2_fieldB x1).toNatClampNeg) + (f_X2_signedByte x1))))
abbrev rmX2_target : Room := { frames := 1, cells := 0, slots := 0, locals := 20 }
set_option maxHeartbeats 4000000 in
set_option maxRecDepth 100000 in
theorem c_X2_target (l : Launch) (dC : Nat → ClassId) (dI : Nat → Nat → Nat) (cI cS : ClassId) (a : Nat → Nat) (hD : xD 95 a) (h0 : hp) (x1 : Int32) {r9 : Int32} (hf : f_X2_target h0 x1 = some r9) : XMi l yX2_target wsX2_target rmX2_target (dC, dI) vwCl (kty cI cS) 95 a (kcf cI cS a) h0 [.ref (a 1), .int x1] r9 h0 := by
  refine xm_i (cc := cX2_target) (maxL := 2) (ws' := wsX2_target.tail) (by decide) rfl hD (Nat.le_of_ble_eq_true rfl) [(0, .ref (a 1)), (1, .int x1)] rfl RX2 rfl ?_
  intro p e s m args below meth c C hlk hr
  have wl9 : Cond.fieldLink RX2 9 "RewindBox$Machine" "registers" "[I" ∈ wsX2_target := by decide +kernel
  have wnX2 : ∀ w ∈ u_ws RX2 TX2 8, w ∈ wsX2_target := by decide +kernel
  have wiX5 : Cond.initialized RX5 ∈ wsX2_target := by decide +kernel
  have wtX5_placeOf : Cond.static yX5_placeOf ∈ wsX2_target := by decide +kernel
  unfold f_X2_target at hf
  refine xr_aload_n C dX2_target_0 0 rfl rfl ?_
  refine xr_get C (ci := 2) (Cn := RX2) (T := TX2) (N := 8) (v := .ref (a 2)) 1 (by decide) rfl rfl 0 (by decide) wnX2 wl9 rfl rfl dX2_target_1 ?_
  refine xr_iload_n C dX2_target_4 1 rfl rfl ?_
  refine xr_callSi C [.int x1] [.ref (a 2)] (c_X2_fieldB l dC dI cI cS a hD h0 x1 rfl) (va_cwS 1 C.2.2.1 gX2_target_X2_fieldB rfl rfl rfl (by decide +kernel) ⟨Nat.le_of_ble_eq_true rfl, Nat.le_of_ble_eq_true rfl⟩) rfl rfl (Nat.le_of_ble_eq_true rfl) dX2_target_5 ?_
  obtain ⟨gg1, hf⟩ := gd_some hf
  refine xr_iald C (v := h0 2 (f_X2_fieldB x1).toNatClampNeg) 2 (by decide) 0 rfl rfl gg1 rfl dX2_target_8 ?_
  refine xr_iload_n C dX2_target_9 1 rfl rfl ?_
  refine xr_callSi C [.int x1] [.int (h0 2 (f_X2_fieldB x1).toNatClampNeg)] (c_X2_signedByte l dC dI cI cS a hD h0 x1 rfl) (va_cwS 1 C.2.2.1 gX2_target_X2_signedByte rfl rfl rfl (by decide +kernel) ⟨Nat.le_of_ble_eq_true rfl, Nat.le_of_ble_eq_true rfl⟩) rfl rfl (Nat.le_of_ble_eq_true rfl) dX2_target_10 ?_
  refine xr_iadd C dX2_target_13 ?_
  refine xr_callSNi C [.int ((h0 2 (f_X2_fieldB x1).toNatClampNeg) + (f_X2_signedByte x1))] [] (c_X5_placeOf l dC dI cI cS a hD h0 ((h0 2 (f_X2_fieldB x1).toNatClampNeg) + (f_X2_signedByte x1)) rfl) ⟨va_cnB 1 C.2.2.1 gX2_target_X5_placeOf_n58 rfl rfl rfl (C.2.2.2.2.1.2 _ List.mem_cons_self) (C.2.2.1 _ wiX5) (by decide +kernel) ⟨Nat.le_of_ble_eq_true rfl, Nat.le_of_ble_eq_true rfl⟩, C.2.2.1 _ wtX5_placeOf, trivial⟩ rfl rfl (Nat.le_of_ble_eq_true rfl) dX2_target_14 ?_
  cases hf
  exact xr_iret C hlk hr dX2_target_17
end
section
def f_X2_writtenWithNext (h0 : hp)  : Option Int32 := bR (f_X2_nextOp h0) (fun rr2 => if rr2 = 8 then (gd (¬ ((h0 1 3) < 0 ∨ 512 ≤ (h0 1 3).toNatClampNeg)) (bR (f_X2_target h0 (h0 3 (h0 1 3).toNatClampNeg)) (fun rr6 => some ((h0 1 7) ||| (f_X2_pageBit rr6))))) else (some (h0 1 7)))
abbrev rmX2_writtenWithNext : Room := { frames := 2, cells := 0, slots := 0, locals := 41 }
set_option maxHeartbeats 4000000 in
set_option maxRecDepth 100000 in
theorem c_X2_writtenWithNext (l : Launch) (dC : Nat → ClassId) (dI : Nat → Nat → Nat) (cI cS : ClassId) (a : Nat → Nat) (hD : xD 95 a) (h0 : hp)  {r9 : Int32} (hf : f_X2_writtenWithNext h0  = some r9) : XMi l yX2_writtenWithNext wsX2_writtenWithNext rmX2_writtenWithNext (dC, dI) vwCl (kty cI cS) 95 a (kcf cI cS a) h0 [.ref (a 1)] r9 h0 := by
  refine xm_i (cc := cX2_writtenWithNext) (maxL := 1) (ws' := wsX2_writtenWithNext.tail) (by decide) rfl hD (Nat.le_of_ble_eq_true rfl) [(0, .ref (a 1))] rfl RX2 rfl ?_
  intro p e s m args below meth c C hlk hr
  have wl41 : Cond.fieldLink RX2 41 "RewindBox$Machine" "written" "I" ∈ wsX2_writtenWithNext := by decide +kernel
  have wnX2 : ∀ w ∈ u_ws RX2 TX2 8, w ∈ wsX2_writtenWithNext := by decide +kernel
  have wl15 : Cond.fieldLink RX2 15 "RewindBox$Machine" "memory" "[I" ∈ wsX2_writtenWithNext := by decide +kernel
  have wl27 : Cond.fieldLink RX2 27 "RewindBox$Machine" "pc" "I" ∈ wsX2_writtenWithNext := by decide +kernel
  unfold f_X2_writtenWithNext at hf
  refine xr_aload_n C dX2_writtenWithNext_0 0 rfl rfl ?_
  obtain ⟨rr2, ee1, hf⟩ := bR_some hf
  refine xr_callVi C (Cn := RX2) 1 (by decide) rfl rfl [] [] (c_X2_nextOp l dC dI cI cS a hD h0 ee1) (cwV 0 C.2.2.1 gX2_writtenWithNext_X2_nextOp rfl rfl rfl (by decide +kernel) ⟨Nat.le_of_ble_eq_true rfl, Nat.le_of_ble_eq_true rfl⟩) rfl rfl (Nat.le_of_ble_eq_true rfl) dX2_writtenWithNext_1 ?_
  refine xr_bipush C (v := 8) dX2_writtenWithNext_4 (by decide +kernel) ?_
  refine xr_icmp_ne C 33 dX2_writtenWithNext_6 (by decide) (fun cd3 => ?_) (fun cd3 => ?_)
  · rw [if_neg cd3] at hf
    refine xr_aload_n C dX2_writtenWithNext_33 0 rfl rfl ?_
    refine xr_get C (ci := 2) (Cn := RX2) (T := TX2) (N := 8) (v := .int (h0 1 7)) 1 (by decide) rfl rfl 7 (by decide) wnX2 wl41 rfl rfl dX2_writtenWithNext_34 ?_
    cases hf
    exact xr_iret C hlk hr dX2_writtenWithNext_37
  · rw [if_pos cd3] at hf
    refine xr_aload_n C dX2_writtenWithNext_9 0 rfl rfl ?_
    refine xr_get C (ci := 2) (Cn := RX2) (T := TX2) (N := 8) (v := .int (h0 1 7)) 1 (by decide) rfl rfl 7 (by decide) wnX2 wl41 rfl rfl dX2_writtenWithNext_10 ?_
    refine xr_aload_n C dX2_writtenWithNext_13 0 rfl rfl ?_
    refine xr_aload_n C dX2_writtenWithNext_14 0 rfl rfl ?_
    refine xr_get C (ci := 2) (Cn := RX2) (T := TX2) (N := 8) (v := .ref (a 3)) 1 (by decide) rfl rfl 1 (by decide) wnX2 wl15 rfl rfl dX2_writtenWithNext_15 ?_
    refine xr_aload_n C dX2_writtenWithNext_18 0 rfl rfl ?_
    refine xr_get C (ci := 2) (Cn := RX2) (T := TX2) (N := 8) (v := .int (h0 1 3)) 1 (by decide) rfl rfl 3 (by decide) wnX2 wl27 rfl rfl dX2_writtenWithNext_19 ?_
    obtain ⟨gg4, hf⟩ := gd_some hf
    refine xr_iald C (v := h0 3 (h0 1 3).toNatClampNeg) 3 (by decide) 0 rfl rfl gg4 rfl dX2_writtenWithNext_22 ?_
    obtain ⟨rr6, ee5, hf⟩ := bR_some hf
    refine xr_callVi C (Cn := RX2) 1 (by decide) rfl rfl [.int (h0 3 (h0 1 3).toNatClampNeg)] [.int (h0 1 7)] (c_X2_target l dC dI cI cS a hD h0 (h0 3 (h0 1 3).toNatClampNeg) ee5) (cwV 1 C.2.2.1 gX2_writtenWithNext_X2_target rfl rfl rfl (by decide +kernel) ⟨Nat.le_of_ble_eq_true rfl, Nat.le_of_ble_eq_true rfl⟩) rfl rfl (Nat.le_of_ble_eq_true rfl) dX2_writtenWithNext_23 ?_
    refine xr_callSi C [.int rr6] [.int (h0 1 7)] (c_X2_pageBit l dC dI cI cS a hD h0 rr6 rfl) (va_cwS 1 C.2.2.1 gX2_writtenWithNext_X2_pageBit rfl rfl rfl (by decide +kernel) ⟨Nat.le_of_ble_eq_true rfl, Nat.le_of_ble_eq_true rfl⟩) rfl rfl (Nat.le_of_ble_eq_true rfl) dX2_writtenWithNext_26 ?_
    refine xr_ior C dX2_writtenWithNext_29 ?_
    refine xr_goto C 37 dX2_writtenWithNext_30 (by decide) ?_
    cases hf
    exact xr_iret C hlk hr dX2_writtenWithNext_37
def f_X2_takeRing (h : hp)  : Option hp := some (u2 (u2 (u2 h 1 4 (h 1 3)) 1 3 8) 1 5 0)
abbrev rmX2_takeRing : Room := { frames := 0, cells := 0, slots := 0, locals := 0 }
set_option maxHeartbeats 4000000 in
set_option maxRecDepth 100000 in
theorem c_X2_takeRing (l : Launch) (dC : Nat → ClassId) (dI : Nat → Nat → Nat) (cI cS : ClassId) (a : Nat → Nat) (hD : xD 95 a) (h : hp)  {h9 : hp} (hf : f_X2_takeRing h  = some h9) : XMv l yX2_takeRing wsX2_takeRing rmX2_takeRing (dC, dI) vwCl (kty cI cS) 95 a (kcf cI cS a) h [.ref (a 1)] h9 := by
  refine xm_v (cc := cX2_takeRing) (maxL := 1) (ws' := wsX2_takeRing.tail) (by decide) rfl hD (Nat.le_of_ble_eq_true rfl) [(0, .ref (a 1))] rfl RX2 rfl ?_
  intro p e s m args below meth c C hlk hr
  have wl27 : Cond.fieldLink RX2 27 "RewindBox$Machine" "pc" "I" ∈ wsX2_takeRing := by decide +kernel
  have wnX2 : ∀ w ∈ u_ws RX2 TX2 8, w ∈ wsX2_takeRing := by decide +kernel
  have wl31 : Cond.fieldLink RX2 31 "RewindBox$Machine" "back" "I" ∈ wsX2_takeRing := by decide +kernel
  have wl34 : Cond.fieldLink RX2 34 "RewindBox$Machine" "open" "Z" ∈ wsX2_takeRing := by decide +kernel
  unfold f_X2_takeRing at hf
  refine xr_aload_n C dX2_takeRing_0 0 rfl rfl ?_
  refine xr_aload_n C dX2_takeRing_1 0 rfl rfl ?_
  refine xr_get C (ci := 2) (Cn := RX2) (T := TX2) (N := 8) (v := .int (h 1 3)) 1 (by decide) rfl rfl 3 (by decide) wnX2 wl27 rfl rfl dX2_takeRing_2 ?_
  refine xr_put C (ci := 2) (Cn := RX2) (T := TX2) (N := 8) (ty := .int) (v := h 1 3) 1 (by decide) rfl rfl 4 (by decide) wnX2 wl31 rfl tyX2 tyX2_ok nmX2 rfl (by decide +kernel) rfl rfl (Nat.le_of_ble_eq_true rfl) rfl dX2_takeRing_5 ?_
  refine xr_aload_n C dX2_takeRing_8 0 rfl rfl ?_
  refine xr_bipush C (v := 8) dX2_takeRing_9 (by decide +kernel) ?_
  refine xr_put C (ci := 2) (Cn := RX2) (T := TX2) (N := 8) (ty := .int) (v := 8) 1 (by decide) rfl rfl 3 (by decide) wnX2 wl27 rfl tyX2 tyX2_ok nmX2 rfl (by decide +kernel) rfl rfl (Nat.le_of_ble_eq_true rfl) rfl dX2_takeRing_11 ?_
  refine xr_aload_n C dX2_takeRing_14 0 rfl rfl ?_
  refine xr_iconst C (v := 0) dX2_takeRing_15 (by decide +kernel) ?_
  refine xr_put C (ci := 2) (Cn := RX2) (T := TX2) (N := 8) (ty := .boolean) (v := 0) 1 (by decide) rfl rfl 5 (by decide) wnX2 wl34 rfl tyX2 tyX2_ok nmX2 rfl (by decide +kernel) (by decide +kernel) (by decide +kernel) (Nat.le_of_ble_eq_true rfl) rfl dX2_takeRing_16 ?_
  cases hf
  exact xr_vret C hlk hr dX2_takeRing_19
def f_X2_compute (x0 : Int32) (x1 : Int32) (x2 : Int32) : Int32 := if x0 = 1 then ((x1 + x2)) else (if x0 = 2 then ((x1 - x2)) else (if x0 = 3 then ((x1 * x2)) else (if x0 = 4 then ((x1 &&& x2)) else ((x1 ^^^ x2)))))
abbrev rmX2_compute : Room := { frames := 0, cells := 0, slots := 0, locals := 0 }
set_option maxHeartbeats 4000000 in
set_option maxRecDepth 100000 in
theorem c_X2_compute (l : Launch) (dC : Nat → ClassId) (dI : Nat → Nat → Nat) (cI cS : ClassId) (a : Nat → Nat) (hD : xD 95 a) (h0 : hp) (x0 : Int32) (x1 : Int32) (x2 : Int32) {r9 : Int32} (hf : f_X2_compute x0 x1 x2 = r9) : XMi l yX2_compute wsX2_compute rmX2_compute (dC, dI) vwCl (kty cI cS) 95 a (kcf cI cS a) h0 [.int x0, .int x1, .int x2] r9 h0 := by
  refine xm_i (cc := cX2_compute) (maxL := 3) (ws' := wsX2_compute.tail) (by decide) rfl hD (Nat.le_of_ble_eq_true rfl) [(0, .int x0), (1, .int x1), (2, .int x2)] rfl RX2 rfl ?_
  intro p e s m args below meth c C hlk hr
  unfold f_X2_compute at hf
  refine xr_iload_n C dX2_compute_0 0 rfl rfl ?_
  by_cases cd1 : x0 = 1
  · rw [if_pos cd1] at hf
    refine xr_tableIn C 32 1 dX2_compute_1 (by rw [cd1]; decide) (by decide) (by decide) rfl (by decide) ?_
    refine xr_iload_n C dX2_compute_32 1 rfl rfl ?_
    refine xr_iload_n C dX2_compute_33 2 rfl rfl ?_
    refine xr_iadd C dX2_compute_34 ?_
    subst hf
    exact xr_iret C hlk hr dX2_compute_35
  rw [if_neg cd1] at hf
  by_cases cd2 : x0 = 2
  · rw [if_pos cd2] at hf
    refine xr_tableIn C 36 2 dX2_compute_1 (by rw [cd2]; decide) (by decide) (by decide) rfl (by decide) ?_
    refine xr_iload_n C dX2_compute_36 1 rfl rfl ?_
    refine xr_iload_n C dX2_compute_37 2 rfl rfl ?_
    refine xr_isub C dX2_compute_38 ?_
    subst hf
    exact xr_iret C hlk hr dX2_compute_39
  rw [if_neg cd2] at hf
  by_cases cd3 : x0 = 3
  · rw [if_pos cd3] at hf
    refine xr_tableIn C 40 3 dX2_compute_1 (by rw [cd3]; decide) (by decide) (by decide) rfl (by decide) ?_
    refine xr_iload_n C dX2_compute_40 1 rfl rfl ?_
    refine xr_iload_n C dX2_compute_41 2 rfl rfl ?_
    refine xr_imul C dX2_compute_42 ?_
    subst hf
    exact xr_iret C hlk hr dX2_compute_43
  rw [if_neg cd3] at hf
  by_cases cd4 : x0 = 4
  · rw [if_pos cd4] at hf
    refine xr_tableIn C 44 4 dX2_compute_1 (by rw [cd4]; decide) (by decide) (by decide) rfl (by decide) ?_
    refine xr_iload_n C dX2_compute_44 1 rfl rfl ?_
    refine xr_iload_n C dX2_compute_45 2 rfl rfl ?_
    refine xr_iand C dX2_compute_46 ?_
    subst hf
    exact xr_iret C hlk hr dX2_compute_47
  rw [if_neg cd4] at hf
  refine xr_tableOut C 48 dX2_compute_1 (by have qcd1 := lv_neT cd1 (show Int32.toInt 1 = 1 from by decide); have qcd2 := lv_neT cd2 (show Int32.toInt 2 = 2 from by decide); have qcd3 := lv_neT cd3 (show Int32.toInt 3 = 3 from by decide); have qcd4 := lv_neT cd4 (show Int32.toInt 4 = 4 from by decide); omega) (by decide) ?_
  refine xr_iload_n C dX2_compute_48 1 rfl rfl ?_
  refine xr_iload_n C dX2_compute_49 2 rfl rfl ?_
  refine xr_ixor C dX2_compute_50 ?_
  subst hf
  exact xr_iret C hlk hr dX2_compute_51
def f_X2_jump (h : hp) (x1 : Int32) (x2 : Int32) (x3 : Int32) : Option hp := if x1 = 9 then (some (u2 h 1 3 x3)) else (if x1 = 10 then (if x2 = 0 then (some (u2 h 1 3 x3)) else (some (u2 h 1 3 (h 1 3)))) else (if x1 = 11 then (if 0 ≤ x2 then (some (u2 h 1 3 (h 1 3))) else (some (u2 h 1 3 x3))) else (if x1 = 12 then (some h) else (if x1 = 13 then (some h) else (if x1 = 14 then (some h) else (if x1 = 15 then (some (u2 (u2 h 1 3 (h 1 4)) 1 5 1)) else (if x1 = 16 then (some h) else (if x1 = 17 then (some h) else (if x1 = 18 then (some (u2 h 1 3 (f_X5_placeOf x2))) else (some h))))))))))
abbrev rmX2_jump : Room := { frames := 1, cells := 0, slots := 0, locals := 20 }
set_option maxHeartbeats 4000000 in
set_option maxRecDepth 100000 in
theorem c_X2_jump (l : Launch) (dC : Nat → ClassId) (dI : Nat → Nat → Nat) (cI cS : ClassId) (a : Nat → Nat) (hD : xD 95 a) (h : hp) (x1 : Int32) (x2 : Int32) (x3 : Int32) {h9 : hp} (hf : f_X2_jump h x1 x2 x3 = some h9) : XMv l yX2_jump wsX2_jump rmX2_jump (dC, dI) vwCl (kty cI cS) 95 a (kcf cI cS a) h [.ref (a 1), .int x1, .int x2, .int x3] h9 := by
  refine xm_v (cc := cX2_jump) (maxL := 4) (ws' := wsX2_jump.tail) (by decide) rfl hD (Nat.le_of_ble_eq_true rfl) [(0, .ref (a 1)), (1, .int x1), (2, .int x2), (3, .int x3)] rfl RX2 rfl ?_
  intro p e s m args below meth c C hlk hr
  have wl27 : Cond.fieldLink RX2 27 "RewindBox$Machine" "pc" "I" ∈ wsX2_jump := by decide +kernel
  have wnX2 : ∀ w ∈ u_ws RX2 TX2 8, w ∈ wsX2_jump := by decide +kernel
  have wl31 : Cond.fieldLink RX2 31 "RewindBox$Machine" "back" "I" ∈ wsX2_jump := by decide +kernel
  have wl34 : Cond.fieldLink RX2 34 "RewindBox$Machine" "open" "Z" ∈ wsX2_jump := by decide +kernel
  have wiX5 : Cond.initialized RX5 ∈ wsX2_jump := by decide +kernel
  have wtX5_placeOf : Cond.static yX5_placeOf ∈ wsX2_jump := by decide +kernel
  unfold f_X2_jump at hf
  refine xr_iload_n C dX2_jump_0 1 rfl rfl ?_
  by_cases cd1 : x1 = 9
  · rw [if_pos cd1] at hf
    refine xr_tableIn C 56 9 dX2_jump_1 (by rw [cd1]; decide) (by decide) (by decide) rfl (by decide) ?_
    refine xr_aload_n C dX2_jump_56 0 rfl rfl ?_
    refine xr_iload_n C dX2_jump_57 3 rfl rfl ?_
    refine xr_put C (ci := 2) (Cn := RX2) (T := TX2) (N := 8) (ty := .int) (v := x3) 1 (by decide) rfl rfl 3 (by decide) wnX2 wl27 rfl tyX2 tyX2_ok nmX2 rfl (by decide +kernel) rfl rfl (Nat.le_of_ble_eq_true rfl) rfl dX2_jump_58 ?_
    refine xr_goto C 129 dX2_jump_61 (by decide) ?_
    cases hf
    exact xr_vret C hlk hr dX2_jump_129
  rw [if_neg cd1] at hf
  by_cases cd2 : x1 = 10
  · rw [if_pos cd2] at hf
    refine xr_tableIn C 64 10 dX2_jump_1 (by rw [cd2]; decide) (by decide) (by decide) rfl (by decide) ?_
    refine xr_aload_n C dX2_jump_64 0 rfl rfl ?_
    refine xr_iload_n C dX2_jump_65 2 rfl rfl ?_
    refine xr_if_ne C 73 dX2_jump_66 (by decide) (fun cd3 => ?_) (fun cd3 => ?_)
    · rw [if_neg cd3] at hf
      refine xr_aload_n C dX2_jump_73 0 rfl rfl ?_
      refine xr_get C (ci := 2) (Cn := RX2) (T := TX2) (N := 8) (v := .int (h 1 3)) 1 (by decide) rfl rfl 3 (by decide) wnX2 wl27 rfl rfl dX2_jump_74 ?_
      refine xr_put C (ci := 2) (Cn := RX2) (T := TX2) (N := 8) (ty := .int) (v := h 1 3) 1 (by decide) rfl rfl 3 (by decide) wnX2 wl27 rfl tyX2 tyX2_ok nmX2 rfl (by decide +kernel) rfl rfl (Nat.le_of_ble_eq_true rfl) rfl dX2_jump_77 ?_
      refine xr_goto C 129 dX2_jump_80 (by decide) ?_
      cases hf
      exact xr_vret C hlk hr dX2_jump_129
    · rw [if_pos cd3] at hf
      refine xr_iload_n C dX2_jump_69 3 rfl rfl ?_
      refine xr_goto C 77 dX2_jump_70 (by decide) ?_
      refine xr_put C (ci := 2) (Cn := RX2) (T := TX2) (N := 8) (ty := .int) (v := x3) 1 (by decide) rfl rfl 3 (by decide) wnX2 wl27 rfl tyX2 tyX2_ok nmX2 rfl (by decide +kernel) rfl rfl (Nat.le_of_ble_eq_true rfl) rfl dX2_jump_77 ?_
      refine xr_goto C 129 dX2_jump_80 (by decide) ?_
      cases hf
      exact xr_vret C hlk hr dX2_jump_129
  rw [if_neg cd2] at hf
  by_cases cd4 : x1 = 11
  · rw [if_pos cd4] at hf
    refine xr_tableIn C 83 11 dX2_jump_1 (by rw [cd4]; decide) (by decide) (by decide) rfl (by decide) ?_
    refine xr_aload_n C dX2_jump_83 0 rfl rfl ?_
    refine xr_iload_n C dX2_jump_84 2 rfl rfl ?_
    refine xr_if_ge C 92 dX2_jump_85 (by decide) (fun cd5 => ?_) (fun cd5 => ?_)
    · rw [if_pos cd5] at hf
      refine xr_aload_n C dX2_jump_92 0 rfl rfl ?_
      refine xr_get C (ci := 2) (Cn := RX2) (T := TX2) (N := 8) (v := .int (h 1 3)) 1 (by decide) rfl rfl 3 (by decide) wnX2 wl27 rfl rfl dX2_jump_93 ?_
      refine xr_put C (ci := 2) (Cn := RX2) (T := TX2) (N := 8) (ty := .int) (v := h 1 3) 1 (by decide) rfl rfl 3 (by decide) wnX2 wl27 rfl tyX2 tyX2_ok nmX2 rfl (by decide +kernel) rfl rfl (Nat.le_of_ble_eq_true rfl) rfl dX2_jump_96 ?_
      refine xr_goto C 129 dX2_jump_99 (by decide) ?_
      cases hf
      exact xr_vret C hlk hr dX2_jump_129
    · rw [if_neg cd5] at hf
      refine xr_iload_n C dX2_jump_88 3 rfl rfl ?_
      refine xr_goto C 96 dX2_jump_89 (by decide) ?_
      refine xr_put C (ci := 2) (Cn := RX2) (T := TX2) (N := 8) (ty := .int) (v := x3) 1 (by decide) rfl rfl 3 (by decide) wnX2 wl27 rfl tyX2 tyX2_ok nmX2 rfl (by decide +kernel) rfl rfl (Nat.le_of_ble_eq_true rfl) rfl dX2_jump_96 ?_
      refine xr_goto C 129 dX2_jump_99 (by decide) ?_
      cases hf
      exact xr_vret C hlk hr dX2_jump_129
  rw [if_neg cd4] at hf
  by_cases cd6 : x1 = 12
  · rw [if_pos cd6] at hf
    refine xr_tableIn C 129 12 dX2_jump_1 (by rw [cd6]; decide) (by decide) (by decide) rfl (by decide) ?_
    cases hf
    exact xr_vret C hlk hr dX2_jump_129
  rw [if_neg cd6] at hf
  by_cases cd7 : x1 = 13
  · rw [if_pos cd7] at hf
    refine xr_tableIn C 129 13 dX2_jump_1 (by rw [cd7]; decide) (by decide) (by decide) rfl (by decide) ?_
    cases hf
    exact xr_vret C hlk hr dX2_jump_129
  rw [if_neg cd7] at hf
  by_cases cd8 : x1 = 14
  · rw [if_pos cd8] at hf
    refine xr_tableIn C 129 14 dX2_jump_1 (by rw [cd8]; decide) (by decide) (by decide) rfl (by decide) ?_
    cases hf
    exact xr_vret C hlk hr dX2_jump_129
  rw [if_neg cd8] at hf
  by_cases cd9 : x1 = 15
  · rw [if_pos cd9] at hf
    refine xr_tableIn C 102 15 dX2_jump_1 (by rw [cd9]; decide) (by decide) (by decide) rfl (by decide) ?_
    refine xr_aload_n C dX2_jump_102 0 rfl rfl ?_
    refine xr_aload_n C dX2_jump_103 0 rfl rfl ?_
    refine xr_get C (ci := 2) (Cn := RX2) (T := TX2) (N := 8) (v := .int (h 1 4)) 1 (by decide) rfl rfl 4 (by decide) wnX2 wl31 rfl rfl dX2_jump_104 ?_
    refine xr_put C (ci := 2) (Cn := RX2) (T := TX2) (N := 8) (ty := .int) (v := h 1 4) 1 (by decide) rfl rfl 3 (by decide) wnX2 wl27 rfl tyX2 tyX2_ok nmX2 rfl (by decide +kernel) rfl rfl (Nat.le_of_ble_eq_true rfl) rfl dX2_jump_107 ?_
    refine xr_aload_n C dX2_jump_110 0 rfl rfl ?_
    refine xr_iconst C (v := 1) dX2_jump_111 (by decide +kernel) ?_
    refine xr_put C (ci := 2) (Cn := RX2) (T := TX2) (N := 8) (ty := .boolean) (v := 1) 1 (by decide) rfl rfl 5 (by decide) wnX2 wl34 rfl tyX2 tyX2_ok nmX2 rfl (by decide +kernel) (by decide +kernel) (by decide +kernel) (Nat.le_of_ble_eq_true rfl) rfl dX2_jump_112 ?_
    refine xr_goto C 129 dX2_jump_115 (by decide) ?_
    cases hf
    exact xr_vret C hlk hr dX2_jump_129
  rw [if_neg cd9] at hf
  by_cases cd10 : x1 = 16
  · rw [if_pos cd10] at hf
    refine xr_tableIn C 129 16 dX2_jump_1 (by rw [cd10]; decide) (by decide) (by decide) rfl (by decide) ?_
    cases hf
    exact xr_vret C hlk hr dX2_jump_129
  rw [if_neg cd10] at hf
  by_cases cd11 : x1 = 17
  · rw [if_pos cd11] at hf
    refine xr_tableIn C 129 17 dX2_jump_1 (by rw [cd11]; decide) (by decide) (by decide) rfl (by decide) ?_
    cases hf
    exact xr_vret C hlk hr dX2_jump_129
  rw [if_neg cd11] at hf
  by_cases cd12 : x1 = 18
  · rw [if_pos cd12] at hf
    refine xr_tableIn C 118 18 dX2_jump_1 (by rw [cd12]; decide) (by decide) (by decide) rfl (by decide) ?_
    refine xr_aload_n C dX2_jump_118 0 rfl rfl ?_
    refine xr_iload_n C dX2_jump_119 2 rfl rfl ?_
    refine xr_callSNi C [.int x2] [.ref (a 1)] (c_X5_placeOf l dC dI cI cS a hD h x2 rfl) ⟨va_cnB 1 C.2.2.1 gX2_jump_X5_placeOf_n58 rfl rfl rfl (C.2.2.2.2.1.2 _ List.mem_cons_self) (C.2.2.1 _ wiX5) (by decide +kernel) ⟨Nat.le_of_ble_eq_true rfl, Nat.le_of_ble_eq_true rfl⟩, C.2.2.1 _ wtX5_placeOf, trivial⟩ rfl rfl (Nat.le_of_ble_eq_true rfl) dX2_jump_120 ?_
    refine xr_put C (ci := 2) (Cn := RX2) (T := TX2) (N := 8) (ty := .int) (v := (f_X5_placeOf x2)) 1 (by decide) rfl rfl 3 (by decide) wnX2 wl27 rfl tyX2 tyX2_ok nmX2 rfl (by decide +kernel) rfl rfl (Nat.le_of_ble_eq_true rfl) rfl dX2_jump_123 ?_
    refine xr_goto C 129 dX2_jump_126 (by decide) ?_
    cases hf
    exact xr_vret C hlk hr dX2_jump_129
  rw [if_neg cd12] at hf
  refine xr_tableOut C 129 dX2_jump_1 (by have qcd1 := lv_neT cd1 (show Int32.toInt 9 = 9 from by decide); have qcd2 := lv_neT cd2 (show Int32.toInt 10 = 10 from by decide); have qcd4 := lv_neT cd4 (show Int32.toInt 11 = 11 from by decide); have qcd6 := lv_neT cd6 (show Int32.toInt 12 = 12 from by decide); have qcd7 := lv_neT cd7 (show Int32.toInt 13 = 13 from by decide); have qcd8 := lv_neT cd8 (show Int32.toInt 14 = 14 from by decide); have qcd9 := lv_neT cd9 (show Int32.toInt 15 = 15 from by decide); have qcd10 := lv_neT cd10 (show Int32.toInt 16 = 16 from by decide); have qcd11 := lv_neT cd11 (show Int32.toInt 17 = 17 from by decide); have qcd12 := lv_neT cd12 (show Int32.toInt 18 = 18 from by decide); omega) (by decide) ?_
  cases hf
  exact xr_vret C hlk hr dX2_jump_129
def f_X2_store (h : hp) (x1 : Int32) (x2 : Int32) : Option hp := gd (¬ (x1 < 0 ∨ 512 ≤ x1.toNatClampNeg)) (some (u2 (u2 h 3 x1.toNatClampNeg x2) 1 7 ((h 1 7) ||| (f_X2_pageBit x1))))
abbrev rmX2_store : Room := { frames := 1, cells := 0, slots := 0, locals := 20 }
set_option maxHeartbeats 4000000 in
set_option maxRecDepth 100000 in
theorem c_X2_store (l : Launch) (dC : Nat → ClassId) (dI : Nat → Nat → Nat) (cI cS : ClassId) (a : Nat → Nat) (hD : xD 95 a) (h : hp) (x1 : Int32) (x2 : Int32) {h9 : hp} (hf : f_X2_store h x1 x2 = some h9) : XMv l yX2_store wsX2_store rmX2_store (dC, dI) vwCl (kty cI cS) 95 a (kcf cI cS a) h [.ref (a 1), .int x1, .int x2] h9 := by
  refine xm_v (cc := cX2_store) (maxL := 3) (ws' := wsX2_store.tail) (by decide) rfl hD (Nat.le_of_ble_eq_true rfl) [(0, .ref (a 1)), (1, .int x1), (2, .int x2)] rfl RX2 rfl ?_
  intro p e s m args below meth c C hlk hr
  have wl15 : Cond.fieldLink RX2 15 "RewindBox$Machine" "memory" "[I" ∈ wsX2_store := by decide +kernel
  have wnX2 : ∀ w ∈ u_ws RX2 TX2 8, w ∈ wsX2_store := by decide +kernel
  have wl41 : Cond.fieldLink RX2 41 "RewindBox$Machine" "written" "I" ∈ wsX2_store := by decide +kernel
  unfold f_X2_store at hf
  refine xr_aload_n C dX2_store_0 0 rfl rfl ?_
  refine xr_get C (ci := 2) (Cn := RX2) (T := TX2) (N := 8) (v := .ref (a 3)) 1 (by decide) rfl rfl 1 (by decide) wnX2 wl15 rfl rfl dX2_store_1 ?_
  refine xr_iload_n C dX2_store_4 1 rfl rfl ?_
  refine xr_iload_n C dX2_store_5 2 rfl rfl ?_
  obtain ⟨gg1, hf⟩ := gd_some hf
  refine xr_iast C 3 (by decide) 0 (fun _ => rfl) rfl gg1 dX2_store_6 ?_
  refine xr_aload_n C dX2_store_7 0 rfl rfl ?_
  refine xr_dup C dX2_store_8 rfl ?_
  refine xr_get C (ci := 2) (Cn := RX2) (T := TX2) (N := 8) (v := .int (h 1 7)) 1 (by decide) rfl rfl 7 (by decide) wnX2 wl41 rfl rfl dX2_store_9 ?_
  refine xr_iload_n C dX2_store_12 1 rfl rfl ?_
  refine xr_callSi C [.int x1] [.int (h 1 7), .ref (a 1)] (c_X2_pageBit l dC dI cI cS a hD (u2 h 3 x1.toNatClampNeg x2) x1 rfl) (va_cwS 1 C.2.2.1 gX2_store_X2_pageBit rfl rfl rfl (by decide +kernel) ⟨Nat.le_of_ble_eq_true rfl, Nat.le_of_ble_eq_true rfl⟩) rfl rfl (Nat.le_of_ble_eq_true rfl) dX2_store_13 ?_
  refine xr_ior C dX2_store_16 ?_
  refine xr_put C (ci := 2) (Cn := RX2) (T := TX2) (N := 8) (ty := .int) (v := ((h 1 7) ||| (f_X2_pageBit x1))) 1 (by decide) rfl rfl 7 (by decide) wnX2 wl41 rfl tyX2 tyX2_ok nmX2 rfl (by decide +kernel) rfl rfl (Nat.le_of_ble_eq_true rfl) rfl dX2_store_17 ?_
  cases hf
  exact xr_vret C hlk hr dX2_store_20
def f_X2_putOut (h : hp) (x1 : Int32) : Option hp := if 64 ≤ h 1 6 then (some (u2 h 1 6 ((h 1 6) + 1))) else (gd (¬ ((h 1 6) < 0 ∨ 64 ≤ (h 1 6).toNatClampNeg)) (some (u2 (u2 h 4 (h 1 6).toNatClampNeg x1) 1 6 ((h 1 6) + 1))))
abbrev rmX2_putOut : Room := { frames := 0, cells := 0, slots := 0, locals := 0 }
set_option maxHeartbeats 4000000 in
set_option maxRecDepth 100000 in
theorem c_X2_putOut (l : Launch) (dC : Nat → ClassId) (dI : Nat → Nat → Nat) (cI cS : ClassId) (a : Nat → Nat) (hD : xD 95 a) (h : hp) (x1 : Int32) {h9 : hp} (hf : f_X2_putOut h x1 = some h9) : XMv l yX2_putOut wsX2_putOut rmX2_putOut (dC, dI) vwCl (kty cI cS) 95 a (kcf cI cS a) h [.ref (a 1), .int x1] h9 := by
  refine xm_v (cc := cX2_putOut) (maxL := 2) (ws' := wsX2_putOut.tail) (by decide) rfl hD (Nat.le_of_ble_eq_true rfl) [(0, .ref (a 1)), (1, .int x1)] rfl RX2 rfl ?_
  intro p e s m args below meth c C hlk hr
  have wl38 : Cond.fieldLink RX2 38 "RewindBox$Machine" "outCount" "I" ∈ wsX2_putOut := by decide +kernel
  have wnX2 : ∀ w ∈ u_ws RX2 TX2 8, w ∈ wsX2_putOut := by decide +kernel
  have wl18 : Cond.fieldLink RX2 18 "RewindBox$Machine" "keptOuts" "[I" ∈ wsX2_putOut := by decide +kernel
  unfold f_X2_putOut at hf
  refine xr_aload_n C dX2_putOut_0 0 rfl rfl ?_
  refine xr_get C (ci := 2) (Cn := RX2) (T := TX2) (N := 8) (v := .int (h 1 6)) 1 (by decide) rfl rfl 6 (by decide) wnX2 wl38 rfl rfl dX2_putOut_1 ?_
  refine xr_bipush C (v := 64) dX2_putOut_4 (by decide +kernel) ?_
  refine xr_icmp_ge C 19 dX2_putOut_6 (by decide) (fun cd1 => ?_) (fun cd1 => ?_)
  · rw [if_pos cd1] at hf
    refine xr_aload_n C dX2_putOut_19 0 rfl rfl ?_
    refine xr_dup C dX2_putOut_20 rfl ?_
    refine xr_get C (ci := 2) (Cn := RX2) (T := TX2) (N := 8) (v := .int (h 1 6)) 1 (by decide) rfl rfl 6 (by decide) wnX2 wl38 rfl rfl dX2_putOut_21 ?_
    refine xr_iconst C (v := 1) dX2_putOut_24 (by decide +kernel) ?_
    refine xr_iadd C dX2_putOut_25 ?_
    refine xr_put C (ci := 2) (Cn := RX2) (T := TX2) (N := 8) (ty := .int) (v := ((h 1 6) + 1)) 1 (by decide) rfl rfl 6 (by decide) wnX2 wl38 rfl tyX2 tyX2_ok nmX2 rfl (by decide +kernel) rfl rfl (Nat.le_of_ble_eq_true rfl) rfl dX2_putOut_26 ?_
    cases hf
    exact xr_vret C hlk hr dX2_putOut_29
  · rw [if_neg cd1] at hf
    refine xr_aload_n C dX2_putOut_9 0 rfl rfl ?_
    refine xr_get C (ci := 2) (Cn := RX2) (T := TX2) (N := 8) (v := .ref (a 4)) 1 (by decide) rfl rfl 2 (by decide) wnX2 wl18 rfl rfl dX2_putOut_10 ?_
    refine xr_aload_n C dX2_putOut_13 0 rfl rfl ?_
    refine xr_get C (ci := 2) (Cn := RX2) (T := TX2) (N := 8) (v := .int (h 1 6)) 1 (by decide) rfl rfl 6 (by decide) wnX2 wl38 rfl rfl dX2_putOut_14 ?_
    refine xr_iload_n C dX2_putOut_17 1 rfl rfl ?_
    obtain ⟨gg2, hf⟩ := gd_some hf
    refine xr_iast C 4 (by decide) 0 (fun _ => rfl) rfl gg2 dX2_putOut_18 ?_
    refine xr_aload_n C dX2_putOut_19 0 rfl rfl ?_
    refine xr_dup C dX2_putOut_20 rfl ?_
    refine xr_get C (ci := 2) (Cn := RX2) (T := TX2) (N := 8) (v := .int (h 1 6)) 1 (by decide) rfl rfl 6 (by decide) wnX2 wl38 rfl rfl dX2_putOut_21 ?_
    refine xr_iconst C (v := 1) dX2_putOut_24 (by decide +kernel) ?_
    refine xr_iadd C dX2_putOut_25 ?_
    refine xr_put C (ci := 2) (Cn := RX2) (T := TX2) (N := 8) (ty := .int) (v := ((h 1 6) + 1)) 1 (by decide) rfl rfl 6 (by decide) wnX2 wl38 rfl tyX2 tyX2_ok nmX2 rfl (by decide +kernel) rfl rfl (Nat.le_of_ble_eq_true rfl) rfl dX2_putOut_26 ?_
    cases hf
    exact xr_vret C hlk hr dX2_putOut_29
def f_X2_perform_120 (h : hp) (x3 : Int32) (x4 : Int32) (x5 : Int32) : Option hp := gd (¬ ((f_X2_fieldB x3) < 0 ∨ 8 ≤ (f_X2_fieldB x3).toNatClampNeg)) (gd (¬ ((f_X2_fieldC x3) < 0 ∨ 8 ≤ (f_X2_fieldC x3).toNatClampNeg)) (gd (¬ (x5 < 0 ∨ 8 ≤ x5.toNatClampNeg)) (some (u2 h 2 x5.toNatClampNeg (f_X2_compute x4 (h 2 (f_X2_fieldB x3).toNatClampNeg) (h 2 (f_X2_fieldC x3).toNatClampNeg))))))
def f_X2_perform_258 (h : hp) (x3 : Int32) (x4 : Int32) (x5 : Int32) : Option hp := gd (¬ (x5 < 0 ∨ 8 ≤ x5.toNatClampNeg)) (bV (f_X2_jump h x4 (h 2 x5.toNatClampNeg) (f_X5_placeOf (f_X2_signedHalf x3))) (fun hh29 => some hh29))
def f_X2_perform (h : hp) (x1 : Int32) (x2 : Int32) : Option hp := gd (¬ ((h 1 3) < 0 ∨ 512 ≤ (h 1 3).toNatClampNeg)) (gl (h 3 (h 1 3).toNatClampNeg) (fun v2 => gl ((v2.toUInt32 >>> ((24 : Int32).toUInt32 &&& Int32.toUInt32 31)).toInt32) (fun v3 => gl (f_X2_fieldA v2) (fun v4 => if v3 = 1 then (f_X2_perform_120 (u2 h 1 3 (f_X5_placeOf ((h 1 3) + 1))) v2 v3 v4) else (if v3 = 2 then (f_X2_perform_120 (u2 h 1 3 (f_X5_placeOf ((h 1 3) + 1))) v2 v3 v4) else (if v3 = 3 then (f_X2_perform_120 (u2 h 1 3 (f_X5_placeOf ((h 1 3) + 1))) v2 v3 v4) else (if v3 = 4 then (f_X2_perform_120 (u2 h 1 3 (f_X5_placeOf ((h 1 3) + 1))) v2 v3 v4) else (if v3 = 5 then (f_X2_perform_120 (u2 h 1 3 (f_X5_placeOf ((h 1 3) + 1))) v2 v3 v4) else (if v3 = 6 then (gd (¬ (v4 < 0 ∨ 8 ≤ v4.toNatClampNeg)) (some (u2 (u2 h 1 3 (f_X5_placeOf ((h 1 3) + 1))) 2 v4.toNatClampNeg (f_X2_signedHalf v2)))) else (if v3 = 7 then (bR (f_X2_target (u2 h 1 3 (f_X5_placeOf ((h 1 3) + 1))) v2) (fun rr17 => gd (¬ (rr17 < 0 ∨ 512 ≤ rr17.toNatClampNeg)) (gd (¬ (v4 < 0 ∨ 8 ≤ v4.toNatClampNeg)) (some (u2 (u2 h 1 3 (f_X5_placeOf ((h 1 3) + 1))) 2 v4.toNatClampNeg (h 3 rr17.toNatClampNeg)))))) else (if v3 = 8 then (bR (f_X2_target (u2 h 1 3 (f_X5_placeOf ((h 1 3) + 1))) v2) (fun rr22 => gd (¬ (v4 < 0 ∨ 8 ≤ v4.toNatClampNeg)) (bV (f_X2_store (u2 h 1 3 (f_X5_placeOf ((h 1 3) + 1))) rr22 (h 2 v4.toNatClampNeg)) (fun hh25 => some hh25)))) else (if v3 = 9 then (f_X2_perform_258 (u2 h 1 3 (f_X5_placeOf ((h 1 3) + 1))) v2 v3 v4) else (if v3 = 10 then (f_X2_perform_258 (u2 h 1 3 (f_X5_placeOf ((h 1 3) + 1))) v2 v3 v4) else (if v3 = 11 then (f_X2_perform_258 (u2 h 1 3 (f_X5_placeOf ((h 1 3) + 1))) v2 v3 v4) else (if v3 = 12 then (gd (¬ (v4 < 0 ∨ 8 ≤ v4.toNatClampNeg)) (some (u2 (u2 h 1 3 (f_X5_placeOf ((h 1 3) + 1))) 2 v4.toNatClampNeg x2))) else (if v3 = 13 then (gd (¬ (v4 < 0 ∨ 8 ≤ v4.toNatClampNeg)) (bV (f_X2_putOut (u2 h 1 3 (f_X5_placeOf ((h 1 3) + 1))) (h 2 v4.toNatClampNeg)) (fun hh37 => some hh37))) else (if v3 = 14 then (gd (¬ (v4 < 0 ∨ 8 ≤ v4.toNatClampNeg)) (some (u2 (u2 h 1 3 (f_X5_placeOf ((h 1 3) + 1))) 2 v4.toNatClampNeg x1))) else (if v3 = 15 then (f_X2_perform_258 (u2 h 1 3 (f_X5_placeOf ((h 1 3) + 1))) v2 v3 v4) else (if v3 = 16 then (some (u2 (u2 h 1 3 (f_X5_placeOf ((h 1 3) + 1))) 1 5 1)) else (if v3 = 17 then (some (u2 (u2 h 1 3 (f_X5_placeOf ((h 1 3) + 1))) 1 5 0)) else (f_X2_perform_258 (u2 h 1 3 (f_X5_placeOf ((h 1 3) + 1))) v2 v3 v4)))))))))))))))))))))
abbrev rmX2_perform : Room := { frames := 2, cells := 0, slots := 0, locals := 43 }
set_option maxHeartbeats 4000000 in
set_option maxRecDepth 100000 in
theorem c_X2_perform (l : Launch) (dC : Nat → ClassId) (dI : Nat → Nat → Nat) (cI cS : ClassId) (a : Nat → Nat) (hD : xD 95 a) (h : hp) (x1 : Int32) (x2 : Int32) {h9 : hp} (hf : f_X2_perform h x1 x2 = some h9) : XMv l yX2_perform wsX2_perform rmX2_perform (dC, dI) vwCl (kty cI cS) 95 a (kcf cI cS a) h [.ref (a 1), .int x1, .int x2] h9 := by
  refine xm_v (cc := cX2_perform) (maxL := 6) (ws' := wsX2_perform.tail) (by decide) rfl hD (Nat.le_of_ble_eq_true rfl) [(0, .ref (a 1)), (1, .int x1), (2, .int x2)] rfl RX2 rfl ?_
  intro p e s m args below meth c C hlk hr
  have wl15 : Cond.fieldLink RX2 15 "RewindBox$Machine" "memory" "[I" ∈ wsX2_perform := by decide +kernel
  have wnX2 : ∀ w ∈ u_ws RX2 TX2 8, w ∈ wsX2_perform := by decide +kernel
  have wl27 : Cond.fieldLink RX2 27 "RewindBox$Machine" "pc" "I" ∈ wsX2_perform := by decide +kernel
  have wiX5 : Cond.initialized RX5 ∈ wsX2_perform := by decide +kernel
  have wtX5_placeOf : Cond.static yX5_placeOf ∈ wsX2_perform := by decide +kernel
  have wl9 : Cond.fieldLink RX2 9 "RewindBox$Machine" "registers" "[I" ∈ wsX2_perform := by decide +kernel
  have wl34 : Cond.fieldLink RX2 34 "RewindBox$Machine" "open" "Z" ∈ wsX2_perform := by decide +kernel
  have lab120 : ∀ (h : hp) (x3 : Int32) (x4 : Int32) (x5 : Int32) , f_X2_perform_120 h x3 x4 x5 = some h9 → XJ p l e rmX2_perform s m args below meth c (dC, dI) vwCl 95 a (kcf cI cS a) 6 (MQ below (XQv (dC, dI) vwCl 95 a (kcf cI cS a) h9) args s 0 0 (xA 95 a)) h [(0, .ref (a 1)), (3, .int x3), (4, .int x4), (5, .int x5)] [] 120 := by
    intro h x3 x4 x5  hf
    unfold f_X2_perform_120 at hf
    refine xr_aload_n C dX2_perform_120 0 rfl rfl ?_
    refine xr_get C (ci := 2) (Cn := RX2) (T := TX2) (N := 8) (v := .ref (a 2)) 1 (by decide) rfl rfl 0 (by decide) wnX2 wl9 rfl rfl dX2_perform_121 ?_
    refine xr_iload C dX2_perform_124 3 rfl ?_
    refine xr_iload C dX2_perform_126 2 rfl ?_
    refine xr_aload_n C dX2_perform_128 0 rfl rfl ?_
    refine xr_get C (ci := 2) (Cn := RX2) (T := TX2) (N := 8) (v := .ref (a 2)) 1 (by decide) rfl rfl 0 (by decide) wnX2 wl9 rfl rfl dX2_perform_129 ?_
    refine xr_iload_n C dX2_perform_132 1 rfl rfl ?_
    refine xr_callSi C [.int x3] [.ref (a 2), .int x4, .int x5, .ref (a 2)] (c_X2_fieldB l dC dI cI cS a hD h x3 rfl) (va_cwS 1 C.2.2.1 gX2_perform_X2_fieldB rfl rfl rfl (by decide +kernel) ⟨Nat.le_of_ble_eq_true rfl, Nat.le_of_ble_eq_true rfl⟩) rfl rfl (Nat.le_of_ble_eq_true rfl) dX2_perform_133 ?_
    obtain ⟨gg6, hf⟩ := gd_some hf
    refine xr_iald C (v := h 2 (f_X2_fieldB x3).toNatClampNeg) 2 (by decide) 0 rfl rfl gg6 rfl dX2_perform_136 ?_
    refine xr_aload_n C dX2_perform_137 0 rfl rfl ?_
    refine xr_get C (ci := 2) (Cn := RX2) (T := TX2) (N := 8) (v := .ref (a 2)) 1 (by decide) rfl rfl 0 (by decide) wnX2 wl9 rfl rfl dX2_perform_138 ?_
    refine xr_iload_n C dX2_perform_141 1 rfl rfl ?_
    refine xr_callSi C [.int x3] [.ref (a 2), .int (h 2 (f_X2_fieldB x3).toNatClampNeg), .int x4, .int x5, .ref (a 2)] (c_X2_fieldC l dC dI cI cS a hD h x3 rfl) (va_cwS 1 C.2.2.1 gX2_perform_X2_fieldC rfl rfl rfl (by decide +kernel) ⟨Nat.le_of_ble_eq_true rfl, Nat.le_of_ble_eq_true rfl⟩) rfl rfl (Nat.le_of_ble_eq_true rfl) dX2_perform_142 ?_
    obtain ⟨gg7, hf⟩ := gd_some hf
    refine xr_iald C (v := h 2 (f_X2_fieldC x3).toNatClampNeg) 2 (by decide) 0 rfl rfl gg7 rfl dX2_perform_145 ?_
    refine xr_callSi C [.int x4, .int (h 2 (f_X2_fieldB x3).toNatClampNeg), .int (h 2 (f_X2_fieldC x3).toNatClampNeg)] [.int x5, .ref (a 2)] (c_X2_compute l dC dI cI cS a hD h x4 (h 2 (f_X2_fieldB x3).toNatClampNeg) (h 2 (f_X2_fieldC x3).toNatClampNeg) rfl) (va_cwS 3 C.2.2.1 gX2_perform_X2_compute rfl rfl rfl (by decide +kernel) ⟨Nat.le_of_ble_eq_true rfl, Nat.le_of_ble_eq_true rfl⟩) rfl rfl (Nat.le_of_ble_eq_true rfl) dX2_perform_146 ?_
    obtain ⟨gg8, hf⟩ := gd_some hf
    refine xr_iast C 2 (by decide) 0 (fun _ => rfl) rfl gg8 dX2_perform_149 ?_
    refine xr_goto C 278 dX2_perform_150 (by decide) ?_
    cases hf
    exact xr_vret C hlk hr dX2_perform_278
  have lab258 : ∀ (h : hp) (x3 : Int32) (x4 : Int32) (x5 : Int32) , f_X2_perform_258 h x3 x4 x5 = some h9 → XJ p l e rmX2_perform s m args below meth c (dC, dI) vwCl 95 a (kcf cI cS a) 6 (MQ below (XQv (dC, dI) vwCl 95 a (kcf cI cS a) h9) args s 0 0 (xA 95 a)) h [(0, .ref (a 1)), (3, .int x3), (4, .int x4), (5, .int x5)] [] 258 := by
    intro h x3 x4 x5  hf
    unfold f_X2_perform_258 at hf
    refine xr_aload_n C dX2_perform_258 0 rfl rfl ?_
    refine xr_iload C dX2_perform_259 2 rfl ?_
    refine xr_aload_n C dX2_perform_261 0 rfl rfl ?_
    refine xr_get C (ci := 2) (Cn := RX2) (T := TX2) (N := 8) (v := .ref (a 2)) 1 (by decide) rfl rfl 0 (by decide) wnX2 wl9 rfl rfl dX2_perform_262 ?_
    refine xr_iload C dX2_perform_265 3 rfl ?_
    obtain ⟨gg27, hf⟩ := gd_some hf
    refine xr_iald C (v := h 2 x5.toNatClampNeg) 2 (by decide) 0 rfl rfl gg27 rfl dX2_perform_267 ?_
    refine xr_iload_n C dX2_perform_268 1 rfl rfl ?_
    refine xr_callSi C [.int x3] [.int (h 2 x5.toNatClampNeg), .int x4, .ref (a 1)] (c_X2_signedHalf l dC dI cI cS a hD h x3 rfl) (va_cwS 1 C.2.2.1 gX2_perform_X2_signedHalf rfl rfl rfl (by decide +kernel) ⟨Nat.le_of_ble_eq_true rfl, Nat.le_of_ble_eq_true rfl⟩) rfl rfl (Nat.le_of_ble_eq_true rfl) dX2_perform_269 ?_
    refine xr_callSNi C [.int (f_X2_signedHalf x3)] [.int (h 2 x5.toNatClampNeg), .int x4, .ref (a 1)] (c_X5_placeOf l dC dI cI cS a hD h (f_X2_signedHalf x3) rfl) ⟨va_cnB 1 C.2.2.1 gX2_perform_X5_placeOf_n58 rfl rfl rfl (C.2.2.2.2.1.2 _ List.mem_cons_self) (C.2.2.1 _ wiX5) (by decide +kernel) ⟨Nat.le_of_ble_eq_true rfl, Nat.le_of_ble_eq_true rfl⟩, C.2.2.1 _ wtX5_placeOf, trivial⟩ rfl rfl (Nat.le_of_ble_eq_true rfl) dX2_perform_272 ?_
    obtain ⟨hh29, ee28, hf⟩ := bV_some hf
    refine xr_callVv C (Cn := RX2) 1 (by decide) rfl rfl [.int x4, .int (h 2 x5.toNatClampNeg), .int (f_X5_placeOf (f_X2_signedHalf x3))] [] (c_X2_jump l dC dI cI cS a hD h x4 (h 2 x5.toNatClampNeg) (f_X5_placeOf (f_X2_signedHalf x3)) ee28) (cwV 3 C.2.2.1 gX2_perform_X2_jump rfl rfl rfl (by decide +kernel) ⟨Nat.le_of_ble_eq_true rfl, Nat.le_of_ble_eq_true rfl⟩) rfl rfl (Nat.le_of_ble_eq_true rfl) dX2_perform_275 ?_
    cases hf
    exact xr_vret C hlk hr dX2_perform_278
  unfold f_X2_perform at hf
  refine xr_aload_n C dX2_perform_0 0 rfl rfl ?_
  refine xr_get C (ci := 2) (Cn := RX2) (T := TX2) (N := 8) (v := .ref (a 3)) 1 (by decide) rfl rfl 1 (by decide) wnX2 wl15 rfl rfl dX2_perform_1 ?_
  refine xr_aload_n C dX2_perform_4 0 rfl rfl ?_
  refine xr_get C (ci := 2) (Cn := RX2) (T := TX2) (N := 8) (v := .int (h 1 3)) 1 (by decide) rfl rfl 3 (by decide) wnX2 wl27 rfl rfl dX2_perform_5 ?_
  obtain ⟨gg1, hf⟩ := gd_some hf
  refine xr_iald C (v := h 3 (h 1 3).toNatClampNeg) 3 (by decide) 0 rfl rfl gg1 rfl dX2_perform_8 ?_
  refine xr_topi C (fun v2 ev2 => ?_)
  have hf := gl_at hf v2 ev2
  refine xr_istore_n C [(3, .int v2), (0, .ref (a 1)), (1, .int x1), (2, .int x2)] dX2_perform_9 rfl (by decide) rfl ?_
  refine xr_iload_n C dX2_perform_10 0 rfl rfl ?_
  refine xr_bipush C (v := 24) dX2_perform_11 (by decide +kernel) ?_
  refine xr_iushr C dX2_perform_13 ?_
  refine xr_topi C (fun v3 ev3 => ?_)
  have hf := gl_at hf v3 ev3
  refine xr_istore C [(4, .int v3), (3, .int v2), (0, .ref (a 1)), (1, .int x1), (2, .int x2)] dX2_perform_14 (by decide) rfl ?_
  refine xr_iload_n C dX2_perform_16 1 rfl rfl ?_
  refine xr_callSi C [.int v2] [] (c_X2_fieldA l dC dI cI cS a hD h v2 rfl) (va_cwS 1 C.2.2.1 gX2_perform_X2_fieldA rfl rfl rfl (by decide +kernel) ⟨Nat.le_of_ble_eq_true rfl, Nat.le_of_ble_eq_true rfl⟩) rfl rfl (Nat.le_of_ble_eq_true rfl) dX2_perform_17 ?_
  refine xr_topi C (fun v4 ev4 => ?_)
  have hf := gl_at hf v4 ev4
  refine xr_istore C [(5, .int v4), (4, .int v3), (3, .int v2), (0, .ref (a 1)), (1, .int x1), (2, .int x2)] dX2_perform_20 (by decide) rfl ?_
  refine xr_aload_n C dX2_perform_22 3 rfl rfl ?_
  refine xr_aload_n C dX2_perform_23 3 rfl rfl ?_
  refine xr_get C (ci := 2) (Cn := RX2) (T := TX2) (N := 8) (v := .int (h 1 3)) 1 (by decide) rfl rfl 3 (by decide) wnX2 wl27 rfl rfl dX2_perform_24 ?_
  refine xr_iconst C (v := 1) dX2_perform_27 (by decide +kernel) ?_
  refine xr_iadd C dX2_perform_28 ?_
  refine xr_callSNi C [.int ((h 1 3) + 1)] [.ref (a 1)] (c_X5_placeOf l dC dI cI cS a hD h ((h 1 3) + 1) rfl) ⟨va_cnB 1 C.2.2.1 gX2_perform_X5_placeOf_n58 rfl rfl rfl (C.2.2.2.2.1.2 _ List.mem_cons_self) (C.2.2.1 _ wiX5) (by decide +kernel) ⟨Nat.le_of_ble_eq_true rfl, Nat.le_of_ble_eq_true rfl⟩, C.2.2.1 _ wtX5_placeOf, trivial⟩ rfl rfl (Nat.le_of_ble_eq_true rfl) dX2_perform_29 ?_
  refine xr_put C (ci := 2) (Cn := RX2) (T := TX2) (N := 8) (ty := .int) (v := (f_X5_placeOf ((h 1 3) + 1))) 1 (by decide) rfl rfl 3 (by decide) wnX2 wl27 rfl tyX2 tyX2_ok nmX2 rfl (by decide +kernel) rfl rfl (Nat.le_of_ble_eq_true rfl) rfl dX2_perform_32 ?_
  refine xr_iload C dX2_perform_35 1 rfl ?_
  by_cases cd5 : v3 = 1
  · rw [if_pos cd5] at hf
    refine xr_tableIn C 120 1 dX2_perform_37 (by rw [cd5]; decide) (by decide) (by decide) rfl (by decide) ?_
    exact xr_sub C [3, 2, 1, 0] rfl (lab120 (u2 h 1 3 (f_X5_placeOf ((h 1 3) + 1))) v2 v3 v4  hf)
  rw [if_neg cd5] at hf
  by_cases cd9 : v3 = 2
  · rw [if_pos cd9] at hf
    refine xr_tableIn C 120 2 dX2_perform_37 (by rw [cd9]; decide) (by decide) (by decide) rfl (by decide) ?_
    exact xr_sub C [3, 2, 1, 0] rfl (lab120 (u2 h 1 3 (f_X5_placeOf ((h 1 3) + 1))) v2 v3 v4  hf)
  rw [if_neg cd9] at hf
  by_cases cd10 : v3 = 3
  · rw [if_pos cd10] at hf
    refine xr_tableIn C 120 3 dX2_perform_37 (by rw [cd10]; decide) (by decide) (by decide) rfl (by decide) ?_
    exact xr_sub C [3, 2, 1, 0] rfl (lab120 (u2 h 1 3 (f_X5_placeOf ((h 1 3) + 1))) v2 v3 v4  hf)
  rw [if_neg cd10] at hf
  by_cases cd11 : v3 = 4
  · rw [if_pos cd11] at hf
    refine xr_tableIn C 120 4 dX2_perform_37 (by rw [cd11]; decide) (by decide) (by decide) rfl (by decide) ?_
    exact xr_sub C [3, 2, 1, 0] rfl (lab120 (u2 h 1 3 (f_X5_placeOf ((h 1 3) + 1))) v2 v3 v4  hf)
  rw [if_neg cd11] at hf
  by_cases cd12 : v3 = 5
  · rw [if_pos cd12] at hf
    refine xr_tableIn C 120 5 dX2_perform_37 (by rw [cd12]; decide) (by decide) (by decide) rfl (by decide) ?_
    exact xr_sub C [3, 2, 1, 0] rfl (lab120 (u2 h 1 3 (f_X5_placeOf ((h 1 3) + 1))) v2 v3 v4  hf)
  rw [if_neg cd12] at hf
  by_cases cd13 : v3 = 6
  · rw [if_pos cd13] at hf
    refine xr_tableIn C 153 6 dX2_perform_37 (by rw [cd13]; decide) (by decide) (by decide) rfl (by decide) ?_
    refine xr_aload_n C dX2_perform_153 3 rfl rfl ?_
    refine xr_get C (ci := 2) (Cn := RX2) (T := TX2) (N := 8) (v := .ref (a 2)) 1 (by decide) rfl rfl 0 (by decide) wnX2 wl9 rfl rfl dX2_perform_154 ?_
    refine xr_iload C dX2_perform_157 0 rfl ?_
    refine xr_iload_n C dX2_perform_159 2 rfl rfl ?_
    refine xr_callSi C [.int v2] [.int v4, .ref (a 2)] (c_X2_signedHalf l dC dI cI cS a hD (u2 h 1 3 (f_X5_placeOf ((h 1 3) + 1))) v2 rfl) (va_cwS 1 C.2.2.1 gX2_perform_X2_signedHalf rfl rfl rfl (by decide +kernel) ⟨Nat.le_of_ble_eq_true rfl, Nat.le_of_ble_eq_true rfl⟩) rfl rfl (Nat.le_of_ble_eq_true rfl) dX2_perform_160 ?_
    obtain ⟨gg14, hf⟩ := gd_some hf
    refine xr_iast C 2 (by decide) 0 (fun _ => rfl) rfl gg14 dX2_perform_163 ?_
    refine xr_goto C 278 dX2_perform_164 (by decide) ?_
    cases hf
    exact xr_vret C hlk hr dX2_perform_278
  rw [if_neg cd13] at hf
  by_cases cd15 : v3 = 7
  · rw [if_pos cd15] at hf
    refine xr_tableIn C 167 7 dX2_perform_37 (by rw [cd15]; decide) (by decide) (by decide) rfl (by decide) ?_
    refine xr_aload_n C dX2_perform_167 3 rfl rfl ?_
    refine xr_get C (ci := 2) (Cn := RX2) (T := TX2) (N := 8) (v := .ref (a 2)) 1 (by decide) rfl rfl 0 (by decide) wnX2 wl9 rfl rfl dX2_perform_168 ?_
    refine xr_iload C dX2_perform_171 0 rfl ?_
    refine xr_aload_n C dX2_perform_173 3 rfl rfl ?_
    refine xr_get C (ci := 2) (Cn := RX2) (T := TX2) (N := 8) (v := .ref (a 3)) 1 (by decide) rfl rfl 1 (by decide) wnX2 wl15 rfl rfl dX2_perform_174 ?_
    refine xr_aload_n C dX2_perform_177 3 rfl rfl ?_
    refine xr_iload_n C dX2_perform_178 2 rfl rfl ?_
    obtain ⟨rr17, ee16, hf⟩ := bR_some hf
    refine xr_callVi C (Cn := RX2) 1 (by decide) rfl rfl [.int v2] [.ref (a 3), .int v4, .ref (a 2)] (c_X2_target l dC dI cI cS a hD (u2 h 1 3 (f_X5_placeOf ((h 1 3) + 1))) v2 ee16) (cwV 1 C.2.2.1 gX2_perform_X2_target rfl rfl rfl (by decide +kernel) ⟨Nat.le_of_ble_eq_true rfl, Nat.le_of_ble_eq_true rfl⟩) rfl rfl (Nat.le_of_ble_eq_true rfl) dX2_perform_179 ?_
    obtain ⟨gg18, hf⟩ := gd_some hf
    refine xr_iald C (v := h 3 rr17.toNatClampNeg) 3 (by decide) 0 rfl rfl gg18 rfl dX2_perform_182 ?_
    obtain ⟨gg19, hf⟩ := gd_some hf
    refine xr_iast C 2 (by decide) 0 (fun _ => rfl) rfl gg19 dX2_perform_183 ?_
    refine xr_goto C 278 dX2_perform_184 (by decide) ?_
    cases hf
    exact xr_vret C hlk hr dX2_perform_278
  rw [if_neg cd15] at hf
  by_cases cd20 : v3 = 8
  · rw [if_pos cd20] at hf
    refine xr_tableIn C 187 8 dX2_perform_37 (by rw [cd20]; decide) (by decide) (by decide) rfl (by decide) ?_
    refine xr_aload_n C dX2_perform_187 3 rfl rfl ?_
    refine xr_aload_n C dX2_perform_188 3 rfl rfl ?_
    refine xr_iload_n C dX2_perform_189 2 rfl rfl ?_
    obtain ⟨rr22, ee21, hf⟩ := bR_some hf
    refine xr_callVi C (Cn := RX2) 1 (by decide) rfl rfl [.int v2] [.ref (a 1)] (c_X2_target l dC dI cI cS a hD (u2 h 1 3 (f_X5_placeOf ((h 1 3) + 1))) v2 ee21) (cwV 1 C.2.2.1 gX2_perform_X2_target rfl rfl rfl (by decide +kernel) ⟨Nat.le_of_ble_eq_true rfl, Nat.le_of_ble_eq_true rfl⟩) rfl rfl (Nat.le_of_ble_eq_true rfl) dX2_perform_190 ?_
    refine xr_aload_n C dX2_perform_193 3 rfl rfl ?_
    refine xr_get C (ci := 2) (Cn := RX2) (T := TX2) (N := 8) (v := .ref (a 2)) 1 (by decide) rfl rfl 0 (by decide) wnX2 wl9 rfl rfl dX2_perform_194 ?_
    refine xr_iload C dX2_perform_197 0 rfl ?_
    obtain ⟨gg23, hf⟩ := gd_some hf
    refine xr_iald C (v := h 2 v4.toNatClampNeg) 2 (by decide) 0 rfl rfl gg23 rfl dX2_perform_199 ?_
    obtain ⟨hh25, ee24, hf⟩ := bV_some hf
    refine xr_callVv C (Cn := RX2) 1 (by decide) rfl rfl [.int rr22, .int (h 2 v4.toNatClampNeg)] [] (c_X2_store l dC dI cI cS a hD (u2 h 1 3 (f_X5_placeOf ((h 1 3) + 1))) rr22 (h 2 v4.toNatClampNeg) ee24) (cwV 2 C.2.2.1 gX2_perform_X2_store rfl rfl rfl (by decide +kernel) ⟨Nat.le_of_ble_eq_true rfl, Nat.le_of_ble_eq_true rfl⟩) rfl rfl (Nat.le_of_ble_eq_true rfl) dX2_perform_200 ?_
    refine xr_goto C 278 dX2_perform_203 (by decide) ?_
    cases hf
    exact xr_vret C hlk hr dX2_perform_278
  rw [if_neg cd20] at hf
  by_cases cd26 : v3 = 9
  · rw [if_pos cd26] at hf
    refine xr_tableIn C 258 9 dX2_perform_37 (by rw [cd26]; decide) (by decide) (by decide) rfl (by decide) ?_
    exact xr_sub C [3, 2, 1, 0] rfl (lab258 (u2 h 1 3 (f_X5_placeOf ((h 1 3) + 1))) v2 v3 v4  hf)
  rw [if_neg cd26] at hf
  by_cases cd30 : v3 = 10
  · rw [if_pos cd30] at hf
    refine xr_tableIn C 258 10 dX2_perform_37 (by rw [cd30]; decide) (by decide) (by decide) rfl (by decide) ?_
    exact xr_sub C [3, 2, 1, 0] rfl (lab258 (u2 h 1 3 (f_X5_placeOf ((h 1 3) + 1))) v2 v3 v4  hf)
  rw [if_neg cd30] at hf
  by_cases cd31 : v3 = 11
  · rw [if_pos cd31] at hf
    refine xr_tableIn C 258 11 dX2_perform_37 (by rw [cd31]; decide) (by decide) (by decide) rfl (by decide) ?_
    exact xr_sub C [3, 2, 1, 0] rfl (lab258 (u2 h 1 3 (f_X5_placeOf ((h 1 3) + 1))) v2 v3 v4  hf)
  rw [if_neg cd31] at hf
  by_cases cd32 : v3 = 12
  · rw [if_pos cd32] at hf
    refine xr_tableIn C 206 12 dX2_perform_37 (by rw [cd32]; decide) (by decide) (by decide) rfl (by decide) ?_
    refine xr_aload_n C dX2_perform_206 3 rfl rfl ?_
    refine xr_get C (ci := 2) (Cn := RX2) (T := TX2) (N := 8) (v := .ref (a 2)) 1 (by decide) rfl rfl 0 (by decide) wnX2 wl9 rfl rfl dX2_perform_207 ?_
    refine xr_iload C dX2_perform_210 0 rfl ?_
    refine xr_iload_n C dX2_perform_212 5 rfl rfl ?_
    obtain ⟨gg33, hf⟩ := gd_some hf
    refine xr_iast C 2 (by decide) 0 (fun _ => rfl) rfl gg33 dX2_perform_213 ?_
    refine xr_goto C 278 dX2_perform_214 (by decide) ?_
    cases hf
    exact xr_vret C hlk hr dX2_perform_278
  rw [if_neg cd32] at hf
  by_cases cd34 : v3 = 13
  · rw [if_pos cd34] at hf
    refine xr_tableIn C 217 13 dX2_perform_37 (by rw [cd34]; decide) (by decide) (by decide) rfl (by decide) ?_
    refine xr_aload_n C dX2_perform_217 3 rfl rfl ?_
    refine xr_aload_n C dX2_perform_218 3 rfl rfl ?_
    refine xr_get C (ci := 2) (Cn := RX2) (T := TX2) (N := 8) (v := .ref (a 2)) 1 (by decide) rfl rfl 0 (by decide) wnX2 wl9 rfl rfl dX2_perform_219 ?_
    refine xr_iload C dX2_perform_222 0 rfl ?_
    obtain ⟨gg35, hf⟩ := gd_some hf
    refine xr_iald C (v := h 2 v4.toNatClampNeg) 2 (by decide) 0 rfl rfl gg35 rfl dX2_perform_224 ?_
    obtain ⟨hh37, ee36, hf⟩ := bV_some hf
    refine xr_callVv C (Cn := RX2) 1 (by decide) rfl rfl [.int (h 2 v4.toNatClampNeg)] [] (c_X2_putOut l dC dI cI cS a hD (u2 h 1 3 (f_X5_placeOf ((h 1 3) + 1))) (h 2 v4.toNatClampNeg) ee36) (cwV 1 C.2.2.1 gX2_perform_X2_putOut rfl rfl rfl (by decide +kernel) ⟨Nat.le_of_ble_eq_true rfl, Nat.le_of_ble_eq_true rfl⟩) rfl rfl (Nat.le_of_ble_eq_true rfl) dX2_perform_225 ?_
    refine xr_goto C 278 dX2_perform_228 (by decide) ?_
    cases hf
    exact xr_vret C hlk hr dX2_perform_278
  rw [if_neg cd34] at hf
  by_cases cd38 : v3 = 14
  · rw [if_pos cd38] at hf
    refine xr_tableIn C 231 14 dX2_perform_37 (by rw [cd38]; decide) (by decide) (by decide) rfl (by decide) ?_
    refine xr_aload_n C dX2_perform_231 3 rfl rfl ?_
    refine xr_get C (ci := 2) (Cn := RX2) (T := TX2) (N := 8) (v := .ref (a 2)) 1 (by decide) rfl rfl 0 (by decide) wnX2 wl9 rfl rfl dX2_perform_232 ?_
    refine xr_iload C dX2_perform_235 0 rfl ?_
    refine xr_iload_n C dX2_perform_237 4 rfl rfl ?_
    obtain ⟨gg39, hf⟩ := gd_some hf
    refine xr_iast C 2 (by decide) 0 (fun _ => rfl) rfl gg39 dX2_perform_238 ?_
    refine xr_goto C 278 dX2_perform_239 (by decide) ?_
    cases hf
    exact xr_vret C hlk hr dX2_perform_278
  rw [if_neg cd38] at hf
  by_cases cd40 : v3 = 15
  · rw [if_pos cd40] at hf
    refine xr_tableIn C 258 15 dX2_perform_37 (by rw [cd40]; decide) (by decide) (by decide) rfl (by decide) ?_
    exact xr_sub C [3, 2, 1, 0] rfl (lab258 (u2 h 1 3 (f_X5_placeOf ((h 1 3) + 1))) v2 v3 v4  hf)
  rw [if_neg cd40] at hf
  by_cases cd41 : v3 = 16
  · rw [if_pos cd41] at hf
    refine xr_tableIn C 242 16 dX2_perform_37 (by rw [cd41]; decide) (by decide) (by decide) rfl (by decide) ?_
    refine xr_aload_n C dX2_perform_242 3 rfl rfl ?_
    refine xr_iconst C (v := 1) dX2_perform_243 (by decide +kernel) ?_
    refine xr_put C (ci := 2) (Cn := RX2) (T := TX2) (N := 8) (ty := .boolean) (v := 1) 1 (by decide) rfl rfl 5 (by decide) wnX2 wl34 rfl tyX2 tyX2_ok nmX2 rfl (by decide +kernel) (by decide +kernel) (by decide +kernel) (Nat.le_of_ble_eq_true rfl) rfl dX2_perform_244 ?_
    refine xr_goto C 278 dX2_perform_247 (by decide) ?_
    cases hf
    exact xr_vret C hlk hr dX2_perform_278
  rw [if_neg cd41] at hf
  by_cases cd42 : v3 = 17
  · rw [if_pos cd42] at hf
    refine xr_tableIn C 250 17 dX2_perform_37 (by rw [cd42]; decide) (by decide) (by decide) rfl (by decide) ?_
    refine xr_aload_n C dX2_perform_250 3 rfl rfl ?_
    refine xr_iconst C (v := 0) dX2_perform_251 (by decide +kernel) ?_
    refine xr_put C (ci := 2) (Cn := RX2) (T := TX2) (N := 8) (ty := .boolean) (v := 0) 1 (by decide) rfl rfl 5 (by decide) wnX2 wl34 rfl tyX2 tyX2_ok nmX2 rfl (by decide +kernel) (by decide +kernel) (by decide +kernel) (Nat.le_of_ble_eq_true rfl) rfl dX2_perform_252 ?_
    refine xr_goto C 278 dX2_perform_255 (by decide) ?_
    cases hf
    exact xr_vret C hlk hr dX2_perform_278
  rw [if_neg cd42] at hf
  refine xr_tableOut C 258 dX2_perform_37 (by have qcd5 := lv_neT cd5 (show Int32.toInt 1 = 1 from by decide); have qcd9 := lv_neT cd9 (show Int32.toInt 2 = 2 from by decide); have qcd10 := lv_neT cd10 (show Int32.toInt 3 = 3 from by decide); have qcd11 := lv_neT cd11 (show Int32.toInt 4 = 4 from by decide); have qcd12 := lv_neT cd12 (show Int32.toInt 5 = 5 from by decide); have qcd13 := lv_neT cd13 (show Int32.toInt 6 = 6 from by decide); have qcd15 := lv_neT cd15 (show Int32.toInt 7 = 7 from by decide); have qcd20 := lv_neT cd20 (show Int32.toInt 8 = 8 from by decide); have qcd26 := lv_neT cd26 (show Int32.toInt 9 = 9 from by decide); have qcd30 := lv_neT cd30 (show Int32.toInt 10 = 10 from by decide); have qcd31 := lv_neT cd31 (show Int32.toInt 11 = 11 from by decide); have qcd32 := lv_neT cd32 (show Int32.toInt 12 = 12 from by decide); have qcd34 := lv_neT cd34 (show Int32.toInt 13 = 13 from by decide); have qcd38 := lv_neT cd38 (show Int32.toInt 14 = 14 from by decide); have qcd40 := lv_neT cd40 (show Int32.toInt 15 = 15 from by decide); have qcd41 := lv_neT cd41 (show Int32.toInt 16 = 16 from by decide); have qcd42 := lv_neT cd42 (show Int32.toInt 17 = 17 from by decide); omega) (by decide) ?_
  exact xr_sub C [3, 2, 1, 0] rfl (lab258 (u2 h 1 3 (f_X5_placeOf ((h 1 3) + 1))) v2 v3 v4  hf)
end
section
def f_X0_clear (h : hp)  : Option hp := some (u2 (u2 h 5 1 0) 5 2 0)
abbrev rmX0_clear : Room := { frames := 0, cells := 0, slots := 0, locals := 0 }
set_option maxHeartbeats 4000000 in
set_option maxRecDepth 100000 in
theorem c_X0_clear (l : Launch) (dC : Nat → ClassId) (dI : Nat → Nat → Nat) (cI cS : ClassId) (a : Nat → Nat) (hD : xD 95 a) (h : hp)  {h9 : hp} (hf : f_X0_clear h  = some h9) : XMv l yX0_clear wsX0_clear rmX0_clear (dC, dI) vwCl (kty cI cS) 95 a (kcf cI cS a) h [.ref (a 5)] h9 := by
  refine xm_v (cc := cX0_clear) (maxL := 1) (ws' := wsX0_clear.tail) (by decide) rfl hD (Nat.le_of_ble_eq_true rfl) [(0, .ref (a 5))] rfl RX0 rfl ?_
  intro p e s m args below meth c C hlk hr
  have wl15 : Cond.fieldLink RX0 15 "RewindBox$Inputs" "first" "I" ∈ wsX0_clear := by decide +kernel
  have wnX0 : ∀ w ∈ u_ws RX0 TX0 3, w ∈ wsX0_clear := by decide +kernel
  have wl19 : Cond.fieldLink RX0 19 "RewindBox$Inputs" "count" "I" ∈ wsX0_clear := by decide +kernel
  unfold f_X0_clear at hf
  refine xr_aload_n C dX0_clear_0 0 rfl rfl ?_
  refine xr_iconst C (v := 0) dX0_clear_1 (by decide +kernel) ?_
  refine xr_put C (ci := 0) (Cn := RX0) (T := TX0) (N := 3) (ty := .int) (v := 0) 5 (by decide) rfl rfl 1 (by decide) wnX0 wl15 rfl tyX0 tyX0_ok nmX0 rfl (by decide +kernel) rfl rfl (Nat.le_of_ble_eq_true rfl) rfl dX0_clear_2 ?_
  refine xr_aload_n C dX0_clear_5 0 rfl rfl ?_
  refine xr_iconst C (v := 0) dX0_clear_6 (by decide +kernel) ?_
  refine xr_put C (ci := 0) (Cn := RX0) (T := TX0) (N := 3) (ty := .int) (v := 0) 5 (by decide) rfl rfl 2 (by decide) wnX0 wl19 rfl tyX0 tyX0_ok nmX0 rfl (by decide +kernel) rfl rfl (Nat.le_of_ble_eq_true rfl) rfl dX0_clear_7 ?_
  cases hf
  exact xr_vret C hlk hr dX0_clear_10
def f_X0_add (h : hp) (x1 : Int32) : Option hp := gd (¬ ((((h 5 1) + (h 5 2)) - ((h 5 1) + (h 5 2)) / 100 * 100) < 0 ∨ 100 ≤ (((h 5 1) + (h 5 2)) - ((h 5 1) + (h 5 2)) / 100 * 100).toNatClampNeg)) (some (u2 (u2 h 6 (((h 5 1) + (h 5 2)) - ((h 5 1) + (h 5 2)) / 100 * 100).toNatClampNeg x1) 5 2 ((h 5 2) + 1)))
abbrev rmX0_add : Room := { frames := 0, cells := 0, slots := 0, locals := 0 }
set_option maxHeartbeats 4000000 in
set_option maxRecDepth 100000 in
theorem c_X0_add (l : Launch) (dC : Nat → ClassId) (dI : Nat → Nat → Nat) (cI cS : ClassId) (a : Nat → Nat) (hD : xD 95 a) (h : hp) (x1 : Int32) {h9 : hp} (hf : f_X0_add h x1 = some h9) : XMv l yX0_add wsX0_add rmX0_add (dC, dI) vwCl (kty cI cS) 95 a (kcf cI cS a) h [.ref (a 5), .int x1] h9 := by
  refine xm_v (cc := cX0_add) (maxL := 2) (ws' := wsX0_add.tail) (by decide) rfl hD (Nat.le_of_ble_eq_true rfl) [(0, .ref (a 5)), (1, .int x1)] rfl RX0 rfl ?_
  intro p e s m args below meth c C hlk hr
  have wl9 : Cond.fieldLink RX0 9 "RewindBox$Inputs" "values" "[I" ∈ wsX0_add := by decide +kernel
  have wnX0 : ∀ w ∈ u_ws RX0 TX0 3, w ∈ wsX0_add := by decide +kernel
  have wl15 : Cond.fieldLink RX0 15 "RewindBox$Inputs" "first" "I" ∈ wsX0_add := by decide +kernel
  have wl19 : Cond.fieldLink RX0 19 "RewindBox$Inputs" "count" "I" ∈ wsX0_add := by decide +kernel
  unfold f_X0_add at hf
  refine xr_aload_n C dX0_add_0 0 rfl rfl ?_
  refine xr_get C (ci := 0) (Cn := RX0) (T := TX0) (N := 3) (v := .ref (a 6)) 5 (by decide) rfl rfl 0 (by decide) wnX0 wl9 rfl rfl dX0_add_1 ?_
  refine xr_aload_n C dX0_add_4 0 rfl rfl ?_
  refine xr_get C (ci := 0) (Cn := RX0) (T := TX0) (N := 3) (v := .int (h 5 1)) 5 (by decide) rfl rfl 1 (by decide) wnX0 wl15 rfl rfl dX0_add_5 ?_
  refine xr_aload_n C dX0_add_8 0 rfl rfl ?_
  refine xr_get C (ci := 0) (Cn := RX0) (T := TX0) (N := 3) (v := .int (h 5 2)) 5 (by decide) rfl rfl 2 (by decide) wnX0 wl19 rfl rfl dX0_add_9 ?_
  refine xr_iadd C dX0_add_12 ?_
  refine xr_bipush C (v := 100) dX0_add_13 (by decide +kernel) ?_
  refine xr_irem C dX0_add_15 (by decide) ?_
  refine xr_iload_n C dX0_add_16 1 rfl rfl ?_
  obtain ⟨gg1, hf⟩ := gd_some hf
  refine xr_iast C 6 (by decide) 0 (fun _ => rfl) rfl gg1 dX0_add_17 ?_
  refine xr_aload_n C dX0_add_18 0 rfl rfl ?_
  refine xr_dup C dX0_add_19 rfl ?_
  refine xr_get C (ci := 0) (Cn := RX0) (T := TX0) (N := 3) (v := .int (h 5 2)) 5 (by decide) rfl rfl 2 (by decide) wnX0 wl19 rfl rfl dX0_add_20 ?_
  refine xr_iconst C (v := 1) dX0_add_23 (by decide +kernel) ?_
  refine xr_iadd C dX0_add_24 ?_
  refine xr_put C (ci := 0) (Cn := RX0) (T := TX0) (N := 3) (ty := .int) (v := ((h 5 2) + 1)) 5 (by decide) rfl rfl 2 (by decide) wnX0 wl19 rfl tyX0 tyX0_ok nmX0 rfl (by decide +kernel) rfl rfl (Nat.le_of_ble_eq_true rfl) rfl dX0_add_25 ?_
  cases hf
  exact xr_vret C hlk hr dX0_add_28
def f_X0_take (h : hp)  : Option (Int32 × hp) := gd (¬ ((h 5 1) < 0 ∨ 100 ≤ (h 5 1).toNatClampNeg)) (gl (h 6 (h 5 1).toNatClampNeg) (fun v2 => some (v2, (u2 (u2 h 5 1 (((h 5 1) + 1) - ((h 5 1) + 1) / 100 * 100)) 5 2 ((h 5 2) - 1)))))
abbrev rmX0_take : Room := { frames := 0, cells := 0, slots := 0, locals := 0 }
set_option maxHeartbeats 4000000 in
set_option maxRecDepth 100000 in
theorem c_X0_take (l : Launch) (dC : Nat → ClassId) (dI : Nat → Nat → Nat) (cI cS : ClassId) (a : Nat → Nat) (hD : xD 95 a) (h : hp)  {r9 : Int32} {h9 : hp} (hf : f_X0_take h  = some (r9, h9)) : XMi l yX0_take wsX0_take rmX0_take (dC, dI) vwCl (kty cI cS) 95 a (kcf cI cS a) h [.ref (a 5)] r9 h9 := by
  refine xm_i (cc := cX0_take) (maxL := 2) (ws' := wsX0_take.tail) (by decide) rfl hD (Nat.le_of_ble_eq_true rfl) [(0, .ref (a 5))] rfl RX0 rfl ?_
  intro p e s m args below meth c C hlk hr
  have wl9 : Cond.fieldLink RX0 9 "RewindBox$Inputs" "values" "[I" ∈ wsX0_take := by decide +kernel
  have wnX0 : ∀ w ∈ u_ws RX0 TX0 3, w ∈ wsX0_take := by decide +kernel
  have wl15 : Cond.fieldLink RX0 15 "RewindBox$Inputs" "first" "I" ∈ wsX0_take := by decide +kernel
  have wl19 : Cond.fieldLink RX0 19 "RewindBox$Inputs" "count" "I" ∈ wsX0_take := by decide +kernel
  unfold f_X0_take at hf
  refine xr_aload_n C dX0_take_0 0 rfl rfl ?_
  refine xr_get C (ci := 0) (Cn := RX0) (T := TX0) (N := 3) (v := .ref (a 6)) 5 (by decide) rfl rfl 0 (by decide) wnX0 wl9 rfl rfl dX0_take_1 ?_
  refine xr_aload_n C dX0_take_4 0 rfl rfl ?_
  refine xr_get C (ci := 0) (Cn := RX0) (T := TX0) (N := 3) (v := .int (h 5 1)) 5 (by decide) rfl rfl 1 (by decide) wnX0 wl15 rfl rfl dX0_take_5 ?_
  obtain ⟨gg1, hf⟩ := gd_some hf
  refine xr_iald C (v := h 6 (h 5 1).toNatClampNeg) 6 (by decide) 0 rfl rfl gg1 rfl dX0_take_8 ?_
  refine xr_topi C (fun v2 ev2 => ?_)
  have hf := gl_at hf v2 ev2
  refine xr_istore_n C [(1, .int v2), (0, .ref (a 5))] dX0_take_9 rfl (by decide) rfl ?_
  refine xr_aload_n C dX0_take_10 1 rfl rfl ?_
  refine xr_aload_n C dX0_take_11 1 rfl rfl ?_
  refine xr_get C (ci := 0) (Cn := RX0) (T := TX0) (N := 3) (v := .int (h 5 1)) 5 (by decide) rfl rfl 1 (by decide) wnX0 wl15 rfl rfl dX0_take_12 ?_
  refine xr_iconst C (v := 1) dX0_take_15 (by decide +kernel) ?_
  refine xr_iadd C dX0_take_16 ?_
  refine xr_bipush C (v := 100) dX0_take_17 (by decide +kernel) ?_
  refine xr_irem C dX0_take_19 (by decide) ?_
  refine xr_put C (ci := 0) (Cn := RX0) (T := TX0) (N := 3) (ty := .int) (v := (((h 5 1) + 1) - ((h 5 1) + 1) / 100 * 100)) 5 (by decide) rfl rfl 1 (by decide) wnX0 wl15 rfl tyX0 tyX0_ok nmX0 rfl (by decide +kernel) rfl rfl (Nat.le_of_ble_eq_true rfl) rfl dX0_take_20 ?_
  refine xr_aload_n C dX0_take_23 1 rfl rfl ?_
  refine xr_dup C dX0_take_24 rfl ?_
  refine xr_get C (ci := 0) (Cn := RX0) (T := TX0) (N := 3) (v := .int (h 5 2)) 5 (by decide) rfl rfl 2 (by decide) wnX0 wl19 rfl rfl dX0_take_25 ?_
  refine xr_iconst C (v := 1) dX0_take_28 (by decide +kernel) ?_
  refine xr_isub C dX0_take_29 ?_
  refine xr_put C (ci := 0) (Cn := RX0) (T := TX0) (N := 3) (ty := .int) (v := ((h 5 2) - 1)) 5 (by decide) rfl rfl 2 (by decide) wnX0 wl19 rfl tyX0 tyX0_ok nmX0 rfl (by decide +kernel) rfl rfl (Nat.le_of_ble_eq_true rfl) rfl dX0_take_30 ?_
  refine xr_iload_n C dX0_take_33 0 rfl rfl ?_
  cases hf
  exact xr_iret C hlk hr dX0_take_34
def f_X1_add (h : hp) (x1 : Int32) (x2 : Int32) (x3 : Int32) : Option hp := gd (¬ ((h 7 3) < 0 ∨ 300 ≤ (h 7 3).toNatClampNeg)) (gd (¬ ((h 7 3) < 0 ∨ 300 ≤ (h 7 3).toNatClampNeg)) (gd (¬ ((h 7 3) < 0 ∨ 300 ≤ (h 7 3).toNatClampNeg)) (some (u2 (u2 (u2 (u2 h 8 (h 7 3).toNatClampNeg x1) 9 (h 7 3).toNatClampNeg x2) 10 (h 7 3).toNatClampNeg x3) 7 3 ((h 7 3) + 1)))))
abbrev rmX1_add : Room := { frames := 0, cells := 0, slots := 0, locals := 0 }
set_option maxHeartbeats 4000000 in
set_option maxRecDepth 100000 in
theorem c_X1_add (l : Launch) (dC : Nat → ClassId) (dI : Nat → Nat → Nat) (cI cS : ClassId) (a : Nat → Nat) (hD : xD 95 a) (h : hp) (x1 : Int32) (x2 : Int32) (x3 : Int32) {h9 : hp} (hf : f_X1_add h x1 x2 x3 = some h9) : XMv l yX1_add wsX1_add rmX1_add (dC, dI) vwCl (kty cI cS) 95 a (kcf cI cS a) h [.ref (a 7), .int x1, .int x2, .int x3] h9 := by
  refine xm_v (cc := cX1_add) (maxL := 4) (ws' := wsX1_add.tail) (by decide) rfl hD (Nat.le_of_ble_eq_true rfl) [(0, .ref (a 7)), (1, .int x1), (2, .int x2), (3, .int x3)] rfl RX1 rfl ?_
  intro p e s m args below meth c C hlk hr
  have wl9 : Cond.fieldLink RX1 9 "RewindBox$Log" "positions" "[I" ∈ wsX1_add := by decide +kernel
  have wnX1 : ∀ w ∈ u_ws RX1 TX1 4, w ∈ wsX1_add := by decide +kernel
  have wl21 : Cond.fieldLink RX1 21 "RewindBox$Log" "count" "I" ∈ wsX1_add := by decide +kernel
  have wl15 : Cond.fieldLink RX1 15 "RewindBox$Log" "kinds" "[I" ∈ wsX1_add := by decide +kernel
  have wl18 : Cond.fieldLink RX1 18 "RewindBox$Log" "values" "[I" ∈ wsX1_add := by decide +kernel
  unfold f_X1_add at hf
  refine xr_aload_n C dX1_add_0 0 rfl rfl ?_
  refine xr_get C (ci := 1) (Cn := RX1) (T := TX1) (N := 4) (v := .ref (a 8)) 7 (by decide) rfl rfl 0 (by decide) wnX1 wl9 rfl rfl dX1_add_1 ?_
  refine xr_aload_n C dX1_add_4 0 rfl rfl ?_
  refine xr_get C (ci := 1) (Cn := RX1) (T := TX1) (N := 4) (v := .int (h 7 3)) 7 (by decide) rfl rfl 3 (by decide) wnX1 wl21 rfl rfl dX1_add_5 ?_
  refine xr_iload_n C dX1_add_8 1 rfl rfl ?_
  obtain ⟨gg1, hf⟩ := gd_some hf
  refine xr_iast C 8 (by decide) 0 (fun _ => rfl) rfl gg1 dX1_add_9 ?_
  refine xr_aload_n C dX1_add_10 0 rfl rfl ?_
  refine xr_get C (ci := 1) (Cn := RX1) (T := TX1) (N := 4) (v := .ref (a 9)) 7 (by decide) rfl rfl 1 (by decide) wnX1 wl15 rfl rfl dX1_add_11 ?_
  refine xr_aload_n C dX1_add_14 0 rfl rfl ?_
  refine xr_get C (ci := 1) (Cn := RX1) (T := TX1) (N := 4) (v := .int (h 7 3)) 7 (by decide) rfl rfl 3 (by decide) wnX1 wl21 rfl rfl dX1_add_15 ?_
  refine xr_iload_n C dX1_add_18 2 rfl rfl ?_
  obtain ⟨gg2, hf⟩ := gd_some hf
  refine xr_iast C 9 (by decide) 0 (fun _ => rfl) rfl gg2 dX1_add_19 ?_
  refine xr_aload_n C dX1_add_20 0 rfl rfl ?_
  refine xr_get C (ci := 1) (Cn := RX1) (T := TX1) (N := 4) (v := .ref (a 10)) 7 (by decide) rfl rfl 2 (by decide) wnX1 wl18 rfl rfl dX1_add_21 ?_
  refine xr_aload_n C dX1_add_24 0 rfl rfl ?_
  refine xr_get C (ci := 1) (Cn := RX1) (T := TX1) (N := 4) (v := .int (h 7 3)) 7 (by decide) rfl rfl 3 (by decide) wnX1 wl21 rfl rfl dX1_add_25 ?_
  refine xr_iload_n C dX1_add_28 3 rfl rfl ?_
  obtain ⟨gg3, hf⟩ := gd_some hf
  refine xr_iast C 10 (by decide) 0 (fun _ => rfl) rfl gg3 dX1_add_29 ?_
  refine xr_aload_n C dX1_add_30 0 rfl rfl ?_
  refine xr_dup C dX1_add_31 rfl ?_
  refine xr_get C (ci := 1) (Cn := RX1) (T := TX1) (N := 4) (v := .int (h 7 3)) 7 (by decide) rfl rfl 3 (by decide) wnX1 wl21 rfl rfl dX1_add_32 ?_
  refine xr_iconst C (v := 1) dX1_add_35 (by decide +kernel) ?_
  refine xr_iadd C dX1_add_36 ?_
  refine xr_put C (ci := 1) (Cn := RX1) (T := TX1) (N := 4) (ty := .int) (v := ((h 7 3) + 1)) 7 (by decide) rfl rfl 3 (by decide) wnX1 wl21 rfl tyX1 tyX1_ok nmX1 rfl (by decide +kernel) rfl rfl (Nat.le_of_ble_eq_true rfl) rfl dX1_add_37 ?_
  cases hf
  exact xr_vret C hlk hr dX1_add_40
def f_X1_countBefore_6 : Nat → hp → Int32 → Int32 → Int32 → Option Int32
  | 0, _, _, _, _ => none
  | n + 1, h0, x1, x2, x3 => if x3 ≤ 0 then (some x2) else (gl (x2 + x3) (fun v2 => if h0 7 3 < v2 then (gl (x3 / 2) (fun v4 => f_X1_countBefore_6 n h0 x1 x2 v4)) else (gd (¬ ((v2 - 1) < 0 ∨ 300 ≤ (v2 - 1).toNatClampNeg)) (if x1 ≤ h0 8 (v2 - 1).toNatClampNeg then (gl (x3 / 2) (fun v7 => f_X1_countBefore_6 n h0 x1 x2 v7)) else (gl (x3 / 2) (fun v8 => f_X1_countBefore_6 n h0 x1 v2 v8))))))
def f_X1_countBefore (h0 : hp) (x1 : Int32) : Option Int32 := f_X1_countBefore_6 1000 h0 x1 0 256
abbrev rmX1_countBefore : Room := { frames := 0, cells := 0, slots := 0, locals := 0 }
set_option maxHeartbeats 4000000 in
set_option maxRecDepth 100000 in
theorem c_X1_countBefore (l : Launch) (dC : Nat → ClassId) (dI : Nat → Nat → Nat) (cI cS : ClassId) (a : Nat → Nat) (hD : xD 95 a) (h0 : hp) (x1 : Int32) {r9 : Int32} (hf : f_X1_countBefore h0 x1 = some r9) : XMi l yX1_countBefore wsX1_countBefore rmX1_countBefore (dC, dI) vwCl (kty cI cS) 95 a (kcf cI cS a) h0 [.ref (a 7), .int x1] r9 h0 := by
  refine xm_i (cc := cX1_countBefore) (maxL := 5) (ws' := wsX1_countBefore.tail) (by decide) rfl hD (Nat.le_of_ble_eq_true rfl) [(0, .ref (a 7)), (1, .int x1)] rfl RX1 rfl ?_
  intro p e s m args below meth c C hlk hr
  have wl21 : Cond.fieldLink RX1 21 "RewindBox$Log" "count" "I" ∈ wsX1_countBefore := by decide +kernel
  have wnX1 : ∀ w ∈ u_ws RX1 TX1 4, w ∈ wsX1_countBefore := by decide +kernel
  have wl9 : Cond.fieldLink RX1 9 "RewindBox$Log" "positions" "[I" ∈ wsX1_countBefore := by decide +kernel
  have lab6 : ∀ (n : Nat) (x1 : Int32) (x2 : Int32) (x3 : Int32) , f_X1_countBefore_6 n h0 x1 x2 x3 = some r9 → XJ p l e rmX1_countBefore s m args below meth c (dC, dI) vwCl 95 a (kcf cI cS a) 5 (MQ below (XQi (dC, dI) vwCl 95 a (kcf cI cS a) r9 h0) args s 0 0 (xA 95 a)) h0 [(0, .ref (a 7)), (1, .int x1), (2, .int x2), (3, .int x3)] [] 6 := by
    intro n
    induction n with
    | zero => intro x1 x2 x3  hf; simp [f_X1_countBefore_6] at hf
    | succ n ih =>
      intro x1 x2 x3  hf
      rw [f_X1_countBefore_6] at hf
      refine xr_iload_n C dX1_countBefore_6 3 rfl rfl ?_
      refine xr_if_le C 47 dX1_countBefore_7 (by decide) (fun cd1 => ?_) (fun cd1 => ?_)
      · rw [if_pos cd1] at hf
        refine xr_iload_n C dX1_countBefore_47 2 rfl rfl ?_
        cases hf
        exact xr_iret C hlk hr dX1_countBefore_48
      · rw [if_neg cd1] at hf
        refine xr_iload_n C dX1_countBefore_10 2 rfl rfl ?_
        refine xr_iload_n C dX1_countBefore_11 3 rfl rfl ?_
        refine xr_iadd C dX1_countBefore_12 ?_
        refine xr_topi C (fun v2 ev2 => ?_)
        have hf := gl_at hf v2 ev2
        refine xr_istore C [(4, .int v2), (0, .ref (a 7)), (1, .int x1), (2, .int x2), (3, .int x3)] dX1_countBefore_13 (by decide) rfl ?_
        refine xr_iload C dX1_countBefore_15 0 rfl ?_
        refine xr_aload_n C dX1_countBefore_17 1 rfl rfl ?_
        refine xr_get C (ci := 1) (Cn := RX1) (T := TX1) (N := 4) (v := .int (h0 7 3)) 7 (by decide) rfl rfl 3 (by decide) wnX1 wl21 rfl rfl dX1_countBefore_18 ?_
        refine xr_icmp_gt C 40 dX1_countBefore_21 (by decide) (fun cd3 => ?_) (fun cd3 => ?_)
        · rw [if_pos cd3] at hf
          refine xr_iload_n C dX1_countBefore_40 4 rfl rfl ?_
          refine xr_iconst C (v := 2) dX1_countBefore_41 (by decide +kernel) ?_
          refine xr_idiv C dX1_countBefore_42 (by decide) ?_
          refine xr_topi C (fun v4 ev4 => ?_)
          have hf := gl_at hf v4 ev4
          refine xr_istore_n C [(3, .int v4), (4, .int v2), (0, .ref (a 7)), (1, .int x1), (2, .int x2)] dX1_countBefore_43 rfl (by decide) rfl ?_
          refine xr_goto C 6 dX1_countBefore_44 (by decide) ?_
          exact xr_sub C [2, 3, 4, 0] rfl (ih  x1 x2 v4  hf)
        · rw [if_neg cd3] at hf
          refine xr_aload_n C dX1_countBefore_24 1 rfl rfl ?_
          refine xr_get C (ci := 1) (Cn := RX1) (T := TX1) (N := 4) (v := .ref (a 8)) 7 (by decide) rfl rfl 0 (by decide) wnX1 wl9 rfl rfl dX1_countBefore_25 ?_
          refine xr_iload C dX1_countBefore_28 0 rfl ?_
          refine xr_iconst C (v := 1) dX1_countBefore_30 (by decide +kernel) ?_
          refine xr_isub C dX1_countBefore_31 ?_
          obtain ⟨gg5, hf⟩ := gd_some hf
          refine xr_iald C (v := h0 8 (v2 - 1).toNatClampNeg) 8 (by decide) 0 rfl rfl gg5 rfl dX1_countBefore_32 ?_
          refine xr_iload_n C dX1_countBefore_33 2 rfl rfl ?_
          refine xr_icmp_ge C 40 dX1_countBefore_34 (by decide) (fun cd6 => ?_) (fun cd6 => ?_)
          · rw [if_pos cd6] at hf
            refine xr_iload_n C dX1_countBefore_40 4 rfl rfl ?_
            refine xr_iconst C (v := 2) dX1_countBefore_41 (by decide +kernel) ?_
            refine xr_idiv C dX1_countBefore_42 (by decide) ?_
            refine xr_topi C (fun v7 ev7 => ?_)
            have hf := gl_at hf v7 ev7
            refine xr_istore_n C [(3, .int v7), (4, .int v2), (0, .ref (a 7)), (1, .int x1), (2, .int x2)] dX1_countBefore_43 rfl (by decide) rfl ?_
            refine xr_goto C 6 dX1_countBefore_44 (by decide) ?_
            exact xr_sub C [2, 3, 4, 0] rfl (ih  x1 x2 v7  hf)
          · rw [if_neg cd6] at hf
            refine xr_iload C dX1_countBefore_37 0 rfl ?_
            refine xr_istore_n C [(2, .int v2), (4, .int v2), (0, .ref (a 7)), (1, .int x1), (3, .int x3)] dX1_countBefore_39 rfl (by decide) rfl ?_
            refine xr_iload_n C dX1_countBefore_40 4 rfl rfl ?_
            refine xr_iconst C (v := 2) dX1_countBefore_41 (by decide +kernel) ?_
            refine xr_idiv C dX1_countBefore_42 (by decide) ?_
            refine xr_topi C (fun v8 ev8 => ?_)
            have hf := gl_at hf v8 ev8
            refine xr_istore_n C [(3, .int v8), (2, .int v2), (4, .int v2), (0, .ref (a 7)), (1, .int x1)] dX1_countBefore_43 rfl (by decide) rfl ?_
            refine xr_goto C 6 dX1_countBefore_44 (by decide) ?_
            exact xr_sub C [3, 4, 1, 0] rfl (ih  x1 v2 v8  hf)
  unfold f_X1_countBefore at hf
  refine xr_iconst C (v := 0) dX1_countBefore_0 (by decide +kernel) ?_
  refine xr_istore_n C [(2, .int 0), (0, .ref (a 7)), (1, .int x1)] dX1_countBefore_1 rfl (by decide) rfl ?_
  refine xr_sipush C (v := 256) dX1_countBefore_2 (by decide +kernel) ?_
  refine xr_istore_n C [(3, .int 256), (2, .int 0), (0, .ref (a 7)), (1, .int x1)] dX1_countBefore_5 rfl (by decide) rfl ?_
  exact xr_sub C [2, 3, 1, 0] rfl (lab6 1000  x1 0 256  hf)
end
section
def f_X3_pageCount (h0 : hp) (k : Nat) : Option Int32 := some (f_J6_bitCount_0f7a4 (h0 (k + 15) 5))
abbrev rmX3_pageCount : Room := { frames := 1, cells := 0, slots := 0, locals := 20 }
set_option maxHeartbeats 4000000 in
set_option maxRecDepth 100000 in
theorem c_X3_pageCount (l : Launch) (dC : Nat → ClassId) (dI : Nat → Nat → Nat) (cI cS : ClassId) (a : Nat → Nat) (hD : xD 95 a) (h0 : hp) (k : Nat) (hkk : k < 40) {r9 : Int32} (hf : f_X3_pageCount h0 k = some r9) : XMi l yX3_pageCount wsX3_pageCount rmX3_pageCount (dC, dI) vwCl (kty cI cS) 95 a (kcf cI cS a) h0 [.ref (a (k + 15))] r9 h0 := by
  refine xm_i (cc := cX3_pageCount) (maxL := 1) (ws' := wsX3_pageCount.tail) (by decide) rfl hD (Nat.le_of_ble_eq_true rfl) [(0, .ref (a (k + 15)))] rfl RX3 rfl ?_
  intro p e s m args below meth c C hlk hr
  have wl15 : Cond.fieldLink RX3 15 "RewindBox$Snapshot" "written" "I" ∈ wsX3_pageCount := by decide +kernel
  have wnX3 : ∀ w ∈ u_ws RX3 TX3 7, w ∈ wsX3_pageCount := by decide +kernel
  unfold f_X3_pageCount at hf
  refine xr_aload_n C dX3_pageCount_0 0 rfl rfl ?_
  refine xr_get C (ci := 3) (Cn := RX3) (T := TX3) (N := 7) (v := .int (h0 (k + 15) 5)) (k + 15) (kid_s hkk) (kcf_snap hkk) rfl 5 (by decide) wnX3 wl15 rfl rfl dX3_pageCount_1 ?_
  refine xr_callSi C [.int (h0 (k + 15) 5)] [] (c_J6_bitCount_0f7a4 l dC dI cI cS a hD h0 (h0 (k + 15) 5) rfl) (va_cwS 1 C.2.2.1 gX3_pageCount_J6_bitCount_0f7a4 rfl rfl rfl (by decide +kernel) ⟨Nat.le_of_ble_eq_true rfl, Nat.le_of_ble_eq_true rfl⟩) rfl rfl (Nat.le_of_ble_eq_true rfl) dX3_pageCount_4 ?_
  cases hf
  exact xr_iret C hlk hr dX3_pageCount_7
def f_X3_hasPage (h0 : hp) (k : Nat) (x1 : Int32) : Option Int32 := if ((((h0 (k + 15) 5).toUInt32 >>> (x1.toUInt32 &&& Int32.toUInt32 31)).toInt32) &&& 1) = 1 then (some 1) else (some 0)
abbrev rmX3_hasPage : Room := { frames := 0, cells := 0, slots := 0, locals := 0 }
set_option maxHeartbeats 4000000 in
set_option maxRecDepth 100000 in
theorem c_X3_hasPage (l : Launch) (dC : Nat → ClassId) (dI : Nat → Nat → Nat) (cI cS : ClassId) (a : Nat → Nat) (hD : xD 95 a) (h0 : hp) (k : Nat) (hkk : k < 40) (x1 : Int32) {r9 : Int32} (hf : f_X3_hasPage h0 k x1 = some r9) : XMi l yX3_hasPage wsX3_hasPage rmX3_hasPage (dC, dI) vwCl (kty cI cS) 95 a (kcf cI cS a) h0 [.ref (a (k + 15)), .int x1] r9 h0 := by
  refine xm_i (cc := cX3_hasPage) (maxL := 2) (ws' := wsX3_hasPage.tail) (by decide) rfl hD (Nat.le_of_ble_eq_true rfl) [(0, .ref (a (k + 15))), (1, .int x1)] rfl RX3 rfl ?_
  intro p e s m args below meth c C hlk hr
  have wl15 : Cond.fieldLink RX3 15 "RewindBox$Snapshot" "written" "I" ∈ wsX3_hasPage := by decide +kernel
  have wnX3 : ∀ w ∈ u_ws RX3 TX3 7, w ∈ wsX3_hasPage := by decide +kernel
  unfold f_X3_hasPage at hf
  refine xr_aload_n C dX3_hasPage_0 0 rfl rfl ?_
  refine xr_get C (ci := 3) (Cn := RX3) (T := TX3) (N := 7) (v := .int (h0 (k + 15) 5)) (k + 15) (kid_s hkk) (kcf_snap hkk) rfl 5 (by decide) wnX3 wl15 rfl rfl dX3_hasPage_1 ?_
  refine xr_iload_n C dX3_hasPage_4 1 rfl rfl ?_
  refine xr_iushr C dX3_hasPage_5 ?_
  refine xr_iconst C (v := 1) dX3_hasPage_6 (by decide +kernel) ?_
  refine xr_iand C dX3_hasPage_7 ?_
  refine xr_iconst C (v := 1) dX3_hasPage_8 (by decide +kernel) ?_
  refine xr_icmp_ne C 16 dX3_hasPage_9 (by decide) (fun cd1 => ?_) (fun cd1 => ?_)
  · rw [if_neg cd1] at hf
    refine xr_iconst C (v := 0) dX3_hasPage_16 (by decide +kernel) ?_
    cases hf
    exact xr_zret C hlk hr (by decide +kernel) dX3_hasPage_17
  · rw [if_pos cd1] at hf
    refine xr_iconst C (v := 1) dX3_hasPage_12 (by decide +kernel) ?_
    refine xr_goto C 17 dX3_hasPage_13 (by decide) ?_
    cases hf
    exact xr_zret C hlk hr (by decide +kernel) dX3_hasPage_17
def f_X3_takeFrom (h : hp) (k : Nat) : Option hp := gd ((h 1 5) = 0 ∨ (h 1 5) = 1) (some (u2 (u2 (u2 (u2 (u2 (va_up h (k + 55) (va_cpy (h 2) (h (k + 55)) (0 : Int32).toNatClampNeg (0 : Int32).toNatClampNeg (8 : Int32).toNatClampNeg)) (k + 15) 1 (h 1 3)) (k + 15) 2 (h 1 4)) (k + 15) 3 (h 1 5)) (k + 15) 4 (h 1 6)) (k + 15) 5 (h 1 7)))
abbrev rmX3_takeFrom : Room := { frames := 1, cells := 0, slots := 0, locals := 18 }
set_option maxHeartbeats 4000000 in
set_option maxRecDepth 100000 in
theorem c_X3_takeFrom (l : Launch) (dC : Nat → ClassId) (dI : Nat → Nat → Nat) (cI cS : ClassId) (a : Nat → Nat) (hD : xD 95 a) (h : hp) (k : Nat) (hkk : k < 40) {h9 : hp} (hf : f_X3_takeFrom h k = some h9) : XMv l yX3_takeFrom wsX3_takeFrom rmX3_takeFrom (dC, dI) vwCl (kty cI cS) 95 a (kcf cI cS a) h [.ref (a (k + 15)), .ref (a 1)] h9 := by
  refine xm_v (cc := cX3_takeFrom) (maxL := 2) (ws' := wsX3_takeFrom.tail) (by decide) rfl hD (Nat.le_of_ble_eq_true rfl) [(0, .ref (a (k + 15))), (1, .ref (a 1))] rfl RX3 rfl ?_
  intro p e s m args below meth c C hlk hr
  have wl25 : Cond.fieldLink RX3 25 "RewindBox$Machine" "registers" "[I" ∈ wsX3_takeFrom := by decide +kernel
  have wnX2 : ∀ w ∈ u_ws RX2 TX2 8, w ∈ wsX3_takeFrom := by decide +kernel
  have wl9 : Cond.fieldLink RX3 9 "RewindBox$Snapshot" "registers" "[I" ∈ wsX3_takeFrom := by decide +kernel
  have wnX3 : ∀ w ∈ u_ws RX3 TX3 7, w ∈ wsX3_takeFrom := by decide +kernel
  have wa28 : Cond.methodLink RX3 28 arraycopyName ∈ wsX3_takeFrom := by decide +kernel
  have wan : Cond.native arraycopyName ∈ wsX3_takeFrom := by decide +kernel
  have was : Cond.static arraycopyName ∈ wsX3_takeFrom := by decide +kernel
  have wai : Cond.initialized "java/lang/System" ∈ wsX3_takeFrom := by decide +kernel
  have wl34 : Cond.fieldLink RX3 34 "RewindBox$Machine" "pc" "I" ∈ wsX3_takeFrom := by decide +kernel
  have wl37 : Cond.fieldLink RX3 37 "RewindBox$Snapshot" "pc" "I" ∈ wsX3_takeFrom := by decide +kernel
  have wl38 : Cond.fieldLink RX3 38 "RewindBox$Machine" "back" "I" ∈ wsX3_takeFrom := by decide +kernel
  have wl41 : Cond.fieldLink RX3 41 "RewindBox$Snapshot" "back" "I" ∈ wsX3_takeFrom := by decide +kernel
  have wl42 : Cond.fieldLink RX3 42 "RewindBox$Machine" "open" "Z" ∈ wsX3_takeFrom := by decide +kernel
  have wl46 : Cond.fieldLink RX3 46 "RewindBox$Snapshot" "open" "Z" ∈ wsX3_takeFrom := by decide +kernel
  have wl47 : Cond.fieldLink RX3 47 "RewindBox$Machine" "outCount" "I" ∈ wsX3_takeFrom := by decide +kernel
  have wl50 : Cond.fieldLink RX3 50 "RewindBox$Snapshot" "outCount" "I" ∈ wsX3_takeFrom := by decide +kernel
  have wl51 : Cond.fieldLink RX3 51 "RewindBox$Machine" "written" "I" ∈ wsX3_takeFrom := by decide +kernel
  have wl15 : Cond.fieldLink RX3 15 "RewindBox$Snapshot" "written" "I" ∈ wsX3_takeFrom := by decide +kernel
  unfold f_X3_takeFrom at hf
  refine xr_aload_n C dX3_takeFrom_0 1 rfl rfl ?_
  refine xr_get C (ci := 2) (Cn := RX2) (T := TX2) (N := 8) (v := .ref (a 2)) 1 (by decide) rfl rfl 0 (by decide) wnX2 wl25 rfl rfl dX3_takeFrom_1 ?_
  refine xr_iconst C (v := 0) dX3_takeFrom_4 (by decide +kernel) ?_
  refine xr_aload_n C dX3_takeFrom_5 0 rfl rfl ?_
  refine xr_get C (ci := 3) (Cn := RX3) (T := TX3) (N := 7) (v := .ref (a (k + 55))) (k + 15) (kid_s hkk) (kcf_snap hkk) rfl 0 (by decide) wnX3 wl9 rfl rfl dX3_takeFrom_6 ?_
  refine xr_iconst C (v := 0) dX3_takeFrom_9 (by decide +kernel) ?_
  refine xr_bipush C (v := 8) dX3_takeFrom_10 (by decide +kernel) ?_
  refine xr_copy C 2 (k + 55) (by decide) (kid_r hkk) 0 rfl kcf_regs rfl wa28 wan was wai (by decide) (Nat.le_of_ble_eq_true rfl) (Nat.le_of_ble_eq_true rfl) dX3_takeFrom_12 ?_
  refine xr_aload_n C dX3_takeFrom_15 0 rfl rfl ?_
  refine xr_aload_n C dX3_takeFrom_16 1 rfl rfl ?_
  refine xr_get C (ci := 2) (Cn := RX2) (T := TX2) (N := 8) (v := .int (h 1 3)) 1 (by decide) rfl rfl 3 (by decide) wnX2 wl34 rfl rfl dX3_takeFrom_17 ?_
  refine xr_put C (ci := 3) (Cn := RX3) (T := TX3) (N := 7) (ty := .int) (v := h 1 3) (k + 15) (kid_s hkk) (kcf_snap hkk) rfl 1 (by decide) wnX3 wl37 rfl tyX3 tyX3_ok nmX3 rfl (by decide +kernel) rfl rfl (Nat.le_of_ble_eq_true rfl) (kcf_snap hkk) dX3_takeFrom_20 ?_
  refine xr_aload_n C dX3_takeFrom_23 0 rfl rfl ?_
  refine xr_aload_n C dX3_takeFrom_24 1 rfl rfl ?_
  refine xr_get C (ci := 2) (Cn := RX2) (T := TX2) (N := 8) (v := .int (h 1 4)) 1 (by decide) rfl rfl 4 (by decide) wnX2 wl38 rfl rfl dX3_takeFrom_25 ?_
  refine xr_put C (ci := 3) (Cn := RX3) (T := TX3) (N := 7) (ty := .int) (v := h 1 4) (k + 15) (kid_s hkk) (kcf_snap hkk) rfl 2 (by decide) wnX3 wl41 rfl tyX3 tyX3_ok nmX3 rfl (by decide +kernel) rfl rfl (Nat.le_of_ble_eq_true rfl) (kcf_snap hkk) dX3_takeFrom_28 ?_
  refine xr_aload_n C dX3_takeFrom_31 0 rfl rfl ?_
  refine xr_aload_n C dX3_takeFrom_32 1 rfl rfl ?_
  refine xr_get C (ci := 2) (Cn := RX2) (T := TX2) (N := 8) (v := .int (h 1 5)) 1 (by decide) rfl rfl 5 (by decide) wnX2 wl42 rfl rfl dX3_takeFrom_33 ?_
  obtain ⟨gg2, hf⟩ := gd_some hf
  refine xr_put C (ci := 3) (Cn := RX3) (T := TX3) (N := 7) (ty := .boolean) (v := h 1 5) (k + 15) (kid_s hkk) (kcf_snap hkk) rfl 3 (by decide) wnX3 wl46 rfl tyX3 tyX3_ok nmX3 rfl (by decide +kernel) (xb_z gg2).1 (xb_z gg2).2.1 (Nat.le_of_ble_eq_true rfl) (kcf_snap hkk) dX3_takeFrom_36 ?_
  refine xr_aload_n C dX3_takeFrom_39 0 rfl rfl ?_
  refine xr_aload_n C dX3_takeFrom_40 1 rfl rfl ?_
  refine xr_get C (ci := 2) (Cn := RX2) (T := TX2) (N := 8) (v := .int (h 1 6)) 1 (by decide) rfl rfl 6 (by decide) wnX2 wl47 rfl rfl dX3_takeFrom_41 ?_
  refine xr_put C (ci := 3) (Cn := RX3) (T := TX3) (N := 7) (ty := .int) (v := h 1 6) (k + 15) (kid_s hkk) (kcf_snap hkk) rfl 4 (by decide) wnX3 wl50 rfl tyX3 tyX3_ok nmX3 rfl (by decide +kernel) rfl rfl (Nat.le_of_ble_eq_true rfl) (kcf_snap hkk) dX3_takeFrom_44 ?_
  refine xr_aload_n C dX3_takeFrom_47 0 rfl rfl ?_
  refine xr_aload_n C dX3_takeFrom_48 1 rfl rfl ?_
  refine xr_get C (ci := 2) (Cn := RX2) (T := TX2) (N := 8) (v := .int (h 1 7)) 1 (by decide) rfl rfl 7 (by decide) wnX2 wl51 rfl rfl dX3_takeFrom_49 ?_
  refine xr_put C (ci := 3) (Cn := RX3) (T := TX3) (N := 7) (ty := .int) (v := h 1 7) (k + 15) (kid_s hkk) (kcf_snap hkk) rfl 5 (by decide) wnX3 wl15 rfl tyX3 tyX3_ok nmX3 rfl (by decide +kernel) rfl rfl (Nat.le_of_ble_eq_true rfl) (kcf_snap hkk) dX3_takeFrom_52 ?_
  cases hf
  exact xr_vret C hlk hr dX3_takeFrom_55
def f_X3_giveBackTo (h : hp) (k : Nat) : Option hp := gd ((h (k + 15) 3) = 0 ∨ (h (k + 15) 3) = 1) (some (u2 (u2 (u2 (u2 (u2 (va_up h 2 (va_cpy (h (k + 55)) (h 2) (0 : Int32).toNatClampNeg (0 : Int32).toNatClampNeg (8 : Int32).toNatClampNeg)) 1 3 (h (k + 15) 1)) 1 4 (h (k + 15) 2)) 1 5 (h (k + 15) 3)) 1 6 (h (k + 15) 4)) 1 7 0))
abbrev rmX3_giveBackTo : Room := { frames := 1, cells := 0, slots := 0, locals := 18 }
set_option maxHeartbeats 4000000 in
set_option maxRecDepth 100000 in
theorem c_X3_giveBackTo (l : Launch) (dC : Nat → ClassId) (dI : Nat → Nat → Nat) (cI cS : ClassId) (a : Nat → Nat) (hD : xD 95 a) (h : hp) (k : Nat) (hkk : k < 40) {h9 : hp} (hf : f_X3_giveBackTo h k = some h9) : XMv l yX3_giveBackTo wsX3_giveBackTo rmX3_giveBackTo (dC, dI) vwCl (kty cI cS) 95 a (kcf cI cS a) h [.ref (a (k + 15)), .ref (a 1)] h9 := by
  refine xm_v (cc := cX3_giveBackTo) (maxL := 2) (ws' := wsX3_giveBackTo.tail) (by decide) rfl hD (Nat.le_of_ble_eq_true rfl) [(0, .ref (a (k + 15))), (1, .ref (a 1))] rfl RX3 rfl ?_
  intro p e s m args below meth c C hlk hr
  have wl9 : Cond.fieldLink RX3 9 "RewindBox$Snapshot" "registers" "[I" ∈ wsX3_giveBackTo := by decide +kernel
  have wnX3 : ∀ w ∈ u_ws RX3 TX3 7, w ∈ wsX3_giveBackTo := by decide +kernel
  have wl25 : Cond.fieldLink RX3 25 "RewindBox$Machine" "registers" "[I" ∈ wsX3_giveBackTo := by decide +kernel
  have wnX2 : ∀ w ∈ u_ws RX2 TX2 8, w ∈ wsX3_giveBackTo := by decide +kernel
  have wa28 : Cond.methodLink RX3 28 arraycopyName ∈ wsX3_giveBackTo := by decide +kernel
  have wan : Cond.native arraycopyName ∈ wsX3_giveBackTo := by decide +kernel
  have was : Cond.static arraycopyName ∈ wsX3_giveBackTo := by decide +kernel
  have wai : Cond.initialized "java/lang/System" ∈ wsX3_giveBackTo := by decide +kernel
  have wl37 : Cond.fieldLink RX3 37 "RewindBox$Snapshot" "pc" "I" ∈ wsX3_giveBackTo := by decide +kernel
  have wl34 : Cond.fieldLink RX3 34 "RewindBox$Machine" "pc" "I" ∈ wsX3_giveBackTo := by decide +kernel
  have wl41 : Cond.fieldLink RX3 41 "RewindBox$Snapshot" "back" "I" ∈ wsX3_giveBackTo := by decide +kernel
  have wl38 : Cond.fieldLink RX3 38 "RewindBox$Machine" "back" "I" ∈ wsX3_giveBackTo := by decide +kernel
  have wl46 : Cond.fieldLink RX3 46 "RewindBox$Snapshot" "open" "Z" ∈ wsX3_giveBackTo := by decide +kernel
  have wl42 : Cond.fieldLink RX3 42 "RewindBox$Machine" "open" "Z" ∈ wsX3_giveBackTo := by decide +kernel
  have wl50 : Cond.fieldLink RX3 50 "RewindBox$Snapshot" "outCount" "I" ∈ wsX3_giveBackTo := by decide +kernel
  have wl47 : Cond.fieldLink RX3 47 "RewindBox$Machine" "outCount" "I" ∈ wsX3_giveBackTo := by decide +kernel
  have wl51 : Cond.fieldLink RX3 51 "RewindBox$Machine" "written" "I" ∈ wsX3_giveBackTo := by decide +kernel
  unfold f_X3_giveBackTo at hf
  refine xr_aload_n C dX3_giveBackTo_0 0 rfl rfl ?_
  refine xr_get C (ci := 3) (Cn := RX3) (T := TX3) (N := 7) (v := .ref (a (k + 55))) (k + 15) (kid_s hkk) (kcf_snap hkk) rfl 0 (by decide) wnX3 wl9 rfl rfl dX3_giveBackTo_1 ?_
  refine xr_iconst C (v := 0) dX3_giveBackTo_4 (by decide +kernel) ?_
  refine xr_aload_n C dX3_giveBackTo_5 1 rfl rfl ?_
  refine xr_get C (ci := 2) (Cn := RX2) (T := TX2) (N := 8) (v := .ref (a 2)) 1 (by decide) rfl rfl 0 (by decide) wnX2 wl25 rfl rfl dX3_giveBackTo_6 ?_
  refine xr_iconst C (v := 0) dX3_giveBackTo_9 (by decide +kernel) ?_
  refine xr_bipush C (v := 8) dX3_giveBackTo_10 (by decide +kernel) ?_
  refine xr_copy C (k + 55) 2 (kid_r hkk) (by decide) 0 (kcf_regs _) (fun _ => rfl) rfl wa28 wan was wai (by decide) (Nat.le_of_ble_eq_true rfl) (Nat.le_of_ble_eq_true rfl) dX3_giveBackTo_12 ?_
  refine xr_aload_n C dX3_giveBackTo_15 1 rfl rfl ?_
  refine xr_aload_n C dX3_giveBackTo_16 0 rfl rfl ?_
  refine xr_get C (ci := 3) (Cn := RX3) (T := TX3) (N := 7) (v := .int (h (k + 15) 1)) (k + 15) (kid_s hkk) (kcf_snap hkk) rfl 1 (by decide) wnX3 wl37 rfl rfl dX3_giveBackTo_17 ?_
  refine xr_put C (ci := 2) (Cn := RX2) (T := TX2) (N := 8) (ty := .int) (v := h (k + 15) 1) 1 (by decide) rfl rfl 3 (by decide) wnX2 wl34 rfl tyX2 tyX2_ok nmX2 rfl (by decide +kernel) rfl rfl (Nat.le_of_ble_eq_true rfl) rfl dX3_giveBackTo_20 ?_
  refine xr_aload_n C dX3_giveBackTo_23 1 rfl rfl ?_
  refine xr_aload_n C dX3_giveBackTo_24 0 rfl rfl ?_
  refine xr_get C (ci := 3) (Cn := RX3) (T := TX3) (N := 7) (v := .int (h (k + 15) 2)) (k + 15) (kid_s hkk) (kcf_snap hkk) rfl 2 (by decide) wnX3 wl41 rfl rfl dX3_giveBackTo_25 ?_
  refine xr_put C (ci := 2) (Cn := RX2) (T := TX2) (N := 8) (ty := .int) (v := h (k + 15) 2) 1 (by decide) rfl rfl 4 (by decide) wnX2 wl38 rfl tyX2 tyX2_ok nmX2 rfl (by decide +kernel) rfl rfl (Nat.le_of_ble_eq_true rfl) rfl dX3_giveBackTo_28 ?_
  refine xr_aload_n C dX3_giveBackTo_31 1 rfl rfl ?_
  refine xr_aload_n C dX3_giveBackTo_32 0 rfl rfl ?_
  refine xr_get C (ci := 3) (Cn := RX3) (T := TX3) (N := 7) (v := .int (h (k + 15) 3)) (k + 15) (kid_s hkk) (kcf_snap hkk) rfl 3 (by decide) wnX3 wl46 rfl rfl dX3_giveBackTo_33 ?_
  obtain ⟨gg2, hf⟩ := gd_some hf
  refine xr_put C (ci := 2) (Cn := RX2) (T := TX2) (N := 8) (ty := .boolean) (v := h (k + 15) 3) 1 (by decide) rfl rfl 5 (by decide) wnX2 wl42 rfl tyX2 tyX2_ok nmX2 rfl (by decide +kernel) (xb_z gg2).1 (xb_z gg2).2.1 (Nat.le_of_ble_eq_true rfl) rfl dX3_giveBackTo_36 ?_
  refine xr_aload_n C dX3_giveBackTo_39 1 rfl rfl ?_
  refine xr_aload_n C dX3_giveBackTo_40 0 rfl rfl ?_
  refine xr_get C (ci := 3) (Cn := RX3) (T := TX3) (N := 7) (v := .int (h (k + 15) 4)) (k + 15) (kid_s hkk) (kcf_snap hkk) rfl 4 (by decide) wnX3 wl50 rfl rfl dX3_giveBackTo_41 ?_
  refine xr_put C (ci := 2) (Cn := RX2) (T := TX2) (N := 8) (ty := .int) (v := h (k + 15) 4) 1 (by decide) rfl rfl 6 (by decide) wnX2 wl47 rfl tyX2 tyX2_ok nmX2 rfl (by decide +kernel) rfl rfl (Nat.le_of_ble_eq_true rfl) rfl dX3_giveBackTo_44 ?_
  refine xr_aload_n C dX3_giveBackTo_47 1 rfl rfl ?_
  refine xr_iconst C (v := 0) dX3_giveBackTo_48 (by decide +kernel) ?_
  refine xr_put C (ci := 2) (Cn := RX2) (T := TX2) (N := 8) (ty := .int) (v := 0) 1 (by decide) rfl rfl 7 (by decide) wnX2 wl51 rfl tyX2 tyX2_ok nmX2 rfl (by decide +kernel) rfl rfl (Nat.le_of_ble_eq_true rfl) rfl dX3_giveBackTo_49 ?_
  cases hf
  exact xr_vret C hlk hr dX3_giveBackTo_52
def f_X4_hasRoomFor (h0 : hp) (x1 : Int32) : Option Int32 := if 40 ≤ h0 11 3 then (some 0) else (if 300 < ((h0 11 4) + (f_J6_bitCount_0f7a4 x1)) then (some 0) else (some 1))
abbrev rmX4_hasRoomFor : Room := { frames := 1, cells := 0, slots := 0, locals := 20 }
set_option maxHeartbeats 4000000 in
set_option maxRecDepth 100000 in
theorem c_X4_hasRoomFor (l : Launch) (dC : Nat → ClassId) (dI : Nat → Nat → Nat) (cI cS : ClassId) (a : Nat → Nat) (hD : xD 95 a) (h0 : hp) (x1 : Int32) {r9 : Int32} (hf : f_X4_hasRoomFor h0 x1 = some r9) : XMi l yX4_hasRoomFor wsX4_hasRoomFor rmX4_hasRoomFor (dC, dI) vwCl (kty cI cS) 95 a (kcf cI cS a) h0 [.ref (a 11), .int x1] r9 h0 := by
  refine xm_i (cc := cX4_hasRoomFor) (maxL := 2) (ws' := wsX4_hasRoomFor.tail) (by decide) rfl hD (Nat.le_of_ble_eq_true rfl) [(0, .ref (a 11)), (1, .int x1)] rfl RX4 rfl ?_
  intro p e s m args below meth c C hlk hr
  have wl36 : Cond.fieldLink RX4 36 "RewindBox$Snapshots" "count" "I" ∈ wsX4_hasRoomFor := by decide +kernel
  have wnX4 : ∀ w ∈ u_ws RX4 TX4 5, w ∈ wsX4_hasRoomFor := by decide +kernel
  have wl40 : Cond.fieldLink RX4 40 "RewindBox$Snapshots" "pages" "I" ∈ wsX4_hasRoomFor := by decide +kernel
  unfold f_X4_hasRoomFor at hf
  refine xr_aload_n C dX4_hasRoomFor_0 0 rfl rfl ?_
  refine xr_get C (ci := 4) (Cn := RX4) (T := TX4) (N := 5) (v := .int (h0 11 3)) 11 (by decide) rfl rfl 3 (by decide) wnX4 wl36 rfl rfl dX4_hasRoomFor_1 ?_
  refine xr_bipush C (v := 40) dX4_hasRoomFor_4 (by decide +kernel) ?_
  refine xr_icmp_ge C 28 dX4_hasRoomFor_6 (by decide) (fun cd1 => ?_) (fun cd1 => ?_)
  · rw [if_pos cd1] at hf
    refine xr_iconst C (v := 0) dX4_hasRoomFor_28 (by decide +kernel) ?_
    cases hf
    exact xr_zret C hlk hr (by decide +kernel) dX4_hasRoomFor_29
  · rw [if_neg cd1] at hf
    refine xr_aload_n C dX4_hasRoomFor_9 0 rfl rfl ?_
    refine xr_get C (ci := 4) (Cn := RX4) (T := TX4) (N := 5) (v := .int (h0 11 4)) 11 (by decide) rfl rfl 4 (by decide) wnX4 wl40 rfl rfl dX4_hasRoomFor_10 ?_
    refine xr_iload_n C dX4_hasRoomFor_13 1 rfl rfl ?_
    refine xr_callSi C [.int x1] [.int (h0 11 4)] (c_J6_bitCount_0f7a4 l dC dI cI cS a hD h0 x1 rfl) (va_cwS 1 C.2.2.1 gX4_hasRoomFor_J6_bitCount_0f7a4 rfl rfl rfl (by decide +kernel) ⟨Nat.le_of_ble_eq_true rfl, Nat.le_of_ble_eq_true rfl⟩) rfl rfl (Nat.le_of_ble_eq_true rfl) dX4_hasRoomFor_14 ?_
    refine xr_iadd C dX4_hasRoomFor_17 ?_
    refine xr_sipush C (v := 300) dX4_hasRoomFor_18 (by decide +kernel) ?_
    refine xr_icmp_gt C 28 dX4_hasRoomFor_21 (by decide) (fun cd2 => ?_) (fun cd2 => ?_)
    · rw [if_pos cd2] at hf
      refine xr_iconst C (v := 0) dX4_hasRoomFor_28 (by decide +kernel) ?_
      cases hf
      exact xr_zret C hlk hr (by decide +kernel) dX4_hasRoomFor_29
    · rw [if_neg cd2] at hf
      refine xr_iconst C (v := 1) dX4_hasRoomFor_24 (by decide +kernel) ?_
      refine xr_goto C 29 dX4_hasRoomFor_25 (by decide) ?_
      cases hf
      exact xr_zret C hlk hr (by decide +kernel) dX4_hasRoomFor_29
def f_X4_add_25 : Nat → hp → Nat → Int32 → Option hp
  | 0, _, _, _ => none
  | n + 1, h, k2, x3 => if 32 ≤ x3 then (some (u2 h 11 3 ((h 11 3) + 1))) else (bR (f_X3_hasPage h k2 x3) (fun rr7 => if rr7 = 0 then (f_X4_add_25 n h k2 (x3 + 1)) else (gd ((¬ (x3 * 16) < 0 ∧ ¬ ((h 11 4) * 16) < 0 ∧ ¬ (16 : Int32) < 0) ∧ (x3 * 16).toNatClampNeg + (16 : Int32).toNatClampNeg ≤ 512 ∧ ((h 11 4) * 16).toNatClampNeg + (16 : Int32).toNatClampNeg ≤ 4800) (f_X4_add_25 n (u2 (va_up h 13 (va_cpy (h 3) (h 13) (x3 * 16).toNatClampNeg ((h 11 4) * 16).toNatClampNeg (16 : Int32).toNatClampNeg)) 11 4 ((h 11 4) + 1)) k2 (x3 + 1)))))
def f_X4_add (h : hp)  : Option hp := gd (¬ ((h 11 3) < 0 ∨ 40 ≤ (h 11 3).toNatClampNeg)) (bV (f_X3_takeFrom h ((h 11 3).toNatClampNeg)) (fun hh4 => f_X4_add_25 1000 (u2 hh4 ((h 11 3).toNatClampNeg + 15) 6 (hh4 11 4)) (h 11 3).toNatClampNeg 0))
abbrev rmX4_add : Room := { frames := 2, cells := 0, slots := 0, locals := 39 }
set_option maxHeartbeats 4000000 in
set_option maxRecDepth 100000 in
theorem c_X4_add (l : Launch) (dC : Nat → ClassId) (dI : Nat → Nat → Nat) (cI cS : ClassId) (a : Nat → Nat) (hD : xD 95 a) (h : hp)  {h9 : hp} (hf : f_X4_add h  = some h9) : XMv l yX4_add wsX4_add rmX4_add (dC, dI) vwCl (kty cI cS) 95 a (kcf cI cS a) h [.ref (a 11), .ref (a 1)] h9 := by
  refine xm_v (cc := cX4_add) (maxL := 4) (ws' := wsX4_add.tail) (by decide) rfl hD (Nat.le_of_ble_eq_true rfl) [(0, .ref (a 11)), (1, .ref (a 1))] rfl RX4 rfl ?_
  intro p e s m args below meth c C hlk hr
  have wl20 : Cond.fieldLink RX4 20 "RewindBox$Snapshots" "row" "[LRewindBox$Snapshot;" ∈ wsX4_add := by decide +kernel
  have wnX4 : ∀ w ∈ u_ws RX4 TX4 5, w ∈ wsX4_add := by decide +kernel
  have wl36 : Cond.fieldLink RX4 36 "RewindBox$Snapshots" "count" "I" ∈ wsX4_add := by decide +kernel
  have wl40 : Cond.fieldLink RX4 40 "RewindBox$Snapshots" "pages" "I" ∈ wsX4_add := by decide +kernel
  have wl56 : Cond.fieldLink RX4 56 "RewindBox$Snapshot" "firstPage" "I" ∈ wsX4_add := by decide +kernel
  have wnX3 : ∀ w ∈ u_ws RX3 TX3 7, w ∈ wsX4_add := by decide +kernel
  have wl25 : Cond.fieldLink RX4 25 "RewindBox$Machine" "memory" "[I" ∈ wsX4_add := by decide +kernel
  have wnX2 : ∀ w ∈ u_ws RX2 TX2 8, w ∈ wsX4_add := by decide +kernel
  have wl15 : Cond.fieldLink RX4 15 "RewindBox$Snapshots" "pageWords" "[I" ∈ wsX4_add := by decide +kernel
  have wa30 : Cond.methodLink RX4 30 arraycopyName ∈ wsX4_add := by decide +kernel
  have wan : Cond.native arraycopyName ∈ wsX4_add := by decide +kernel
  have was : Cond.static arraycopyName ∈ wsX4_add := by decide +kernel
  have wai : Cond.initialized "java/lang/System" ∈ wsX4_add := by decide +kernel
  have lab25 : ∀ (n : Nat) (h : hp) (k2 : Nat) (x3 : Int32) (hkk2 : k2 < 40), f_X4_add_25 n h k2 x3 = some h9 → XJ p l e rmX4_add s m args below meth c (dC, dI) vwCl 95 a (kcf cI cS a) 4 (MQ below (XQv (dC, dI) vwCl 95 a (kcf cI cS a) h9) args s 0 0 (xA 95 a)) h [(0, .ref (a 11)), (1, .ref (a 1)), (2, .ref (a (k2 + 15))), (3, .int x3)] [] 25 := by
    intro n
    induction n with
    | zero => intro h k2 x3 _ hf; simp [f_X4_add_25] at hf
    | succ n ih =>
      intro h k2 x3 hkk2 hf
      rw [f_X4_add_25] at hf
      refine xr_iload_n C dX4_add_25 3 rfl rfl ?_
      refine xr_bipush C (v := 32) dX4_add_26 (by decide +kernel) ?_
      refine xr_icmp_ge C 79 dX4_add_28 (by decide) (fun cd5 => ?_) (fun cd5 => ?_)
      · rw [if_pos cd5] at hf
        refine xr_aload_n C dX4_add_79 0 rfl rfl ?_
        refine xr_dup C dX4_add_80 rfl ?_
        refine xr_get C (ci := 4) (Cn := RX4) (T := TX4) (N := 5) (v := .int (h 11 3)) 11 (by decide) rfl rfl 3 (by decide) wnX4 wl36 rfl rfl dX4_add_81 ?_
        refine xr_iconst C (v := 1) dX4_add_84 (by decide +kernel) ?_
        refine xr_iadd C dX4_add_85 ?_
        refine xr_put C (ci := 4) (Cn := RX4) (T := TX4) (N := 5) (ty := .int) (v := ((h 11 3) + 1)) 11 (by decide) rfl rfl 3 (by decide) wnX4 wl36 rfl tyX4 tyX4_ok nmX4 rfl (by decide +kernel) rfl rfl (Nat.le_of_ble_eq_true rfl) rfl dX4_add_86 ?_
        cases hf
        exact xr_vret C hlk hr dX4_add_89
      · rw [if_neg cd5] at hf
        refine xr_aload_n C dX4_add_31 2 rfl rfl ?_
        refine xr_iload_n C dX4_add_32 3 rfl rfl ?_
        obtain ⟨rr7, ee6, hf⟩ := bR_some hf
        refine xr_callVi C (Cn := RX3) (k2 + 15) (kid_s hkk2) (kcf_snap hkk2) rfl [.int x3] [] (c_X3_hasPage l dC dI cI cS a hD h k2 hkk2 x3 ee6) (cwV 1 C.2.2.1 gX4_add_X3_hasPage rfl rfl rfl (by decide +kernel) ⟨Nat.le_of_ble_eq_true rfl, Nat.le_of_ble_eq_true rfl⟩) rfl rfl (Nat.le_of_ble_eq_true rfl) dX4_add_33 ?_
        refine xr_if_eq C 73 dX4_add_36 (by decide) (fun cd8 => ?_) (fun cd8 => ?_)
        · rw [if_pos cd8] at hf
          refine xr_iinc C [(3, .int (x3 + 1)), (0, .ref (a 11)), (1, .ref (a 1)), (2, .ref (a (k2 + 15)))] dX4_add_73 3 rfl rfl (by decide) rfl ?_
          refine xr_goto C 25 dX4_add_76 (by decide) ?_
          exact xr_sub C [1, 2, 3, 0] rfl (ih h k2 (x3 + 1) hkk2 hf)
        · rw [if_neg cd8] at hf
          refine xr_aload_n C dX4_add_39 1 rfl rfl ?_
          refine xr_get C (ci := 2) (Cn := RX2) (T := TX2) (N := 8) (v := .ref (a 3)) 1 (by decide) rfl rfl 1 (by decide) wnX2 wl25 rfl rfl dX4_add_40 ?_
          refine xr_iload_n C dX4_add_43 3 rfl rfl ?_
          refine xr_bipush C (v := 16) dX4_add_44 (by decide +kernel) ?_
          refine xr_imul C dX4_add_46 ?_
          refine xr_aload_n C dX4_add_47 0 rfl rfl ?_
          refine xr_get C (ci := 4) (Cn := RX4) (T := TX4) (N := 5) (v := .ref (a 13)) 11 (by decide) rfl rfl 1 (by decide) wnX4 wl15 rfl rfl dX4_add_48 ?_
          refine xr_aload_n C dX4_add_51 0 rfl rfl ?_
          refine xr_get C (ci := 4) (Cn := RX4) (T := TX4) (N := 5) (v := .int (h 11 4)) 11 (by decide) rfl rfl 4 (by decide) wnX4 wl40 rfl rfl dX4_add_52 ?_
          refine xr_bipush C (v := 16) dX4_add_55 (by decide +kernel) ?_
          refine xr_imul C dX4_add_57 ?_
          refine xr_bipush C (v := 16) dX4_add_58 (by decide +kernel) ?_
          obtain ⟨gg9, hf⟩ := gd_some hf
          refine xr_copy C 3 13 (by decide) (by decide) 0 rfl (fun _ => rfl) rfl wa30 wan was wai gg9 (Nat.le_of_ble_eq_true rfl) (Nat.le_of_ble_eq_true rfl) dX4_add_60 ?_
          refine xr_aload_n C dX4_add_63 0 rfl rfl ?_
          refine xr_dup C dX4_add_64 rfl ?_
          refine xr_get C (ci := 4) (Cn := RX4) (T := TX4) (N := 5) (v := .int (h 11 4)) 11 (by decide) rfl rfl 4 (by decide) wnX4 wl40 rfl rfl dX4_add_65 ?_
          refine xr_iconst C (v := 1) dX4_add_68 (by decide +kernel) ?_
          refine xr_iadd C dX4_add_69 ?_
          refine xr_put C (ci := 4) (Cn := RX4) (T := TX4) (N := 5) (ty := .int) (v := ((h 11 4) + 1)) 11 (by decide) rfl rfl 4 (by decide) wnX4 wl40 rfl tyX4 tyX4_ok nmX4 rfl (by decide +kernel) rfl rfl (Nat.le_of_ble_eq_true rfl) rfl dX4_add_70 ?_
          refine xr_iinc C [(3, .int (x3 + 1)), (0, .ref (a 11)), (1, .ref (a 1)), (2, .ref (a (k2 + 15)))] dX4_add_73 3 rfl rfl (by decide) rfl ?_
          refine xr_goto C 25 dX4_add_76 (by decide) ?_
          exact xr_sub C [1, 2, 3, 0] rfl (ih (u2 (va_up h 13 (va_cpy (h 3) (h 13) (x3 * 16).toNatClampNeg ((h 11 4) * 16).toNatClampNeg (16 : Int32).toNatClampNeg)) 11 4 ((h 11 4) + 1)) k2 (x3 + 1) hkk2 hf)
  unfold f_X4_add at hf
  refine xr_aload_n C dX4_add_0 0 rfl rfl ?_
  refine xr_get C (ci := 4) (Cn := RX4) (T := TX4) (N := 5) (v := .ref (a 14)) 11 (by decide) rfl rfl 2 (by decide) wnX4 wl20 rfl rfl dX4_add_1 ?_
  refine xr_aload_n C dX4_add_4 0 rfl rfl ?_
  refine xr_get C (ci := 4) (Cn := RX4) (T := TX4) (N := 5) (v := .int (h 11 3)) 11 (by decide) rfl rfl 3 (by decide) wnX4 wl36 rfl rfl dX4_add_5 ?_
  obtain ⟨gg1, hf⟩ := gd_some hf
  refine xr_aald C (f := fun k => some (a (k + 15))) 14 (by decide) 1 rfl rfl gg1 rfl dX4_add_8 ?_
  have hk_h_11_3_toNatClampNeg := gd_lt gg1
  refine xr_astore_n C [(2, .ref (a ((h 11 3).toNatClampNeg + 15))), (0, .ref (a 11)), (1, .ref (a 1))] dX4_add_9 rfl (by decide) rfl ?_
  refine xr_aload_n C dX4_add_10 0 rfl rfl ?_
  refine xr_aload_n C dX4_add_11 2 rfl rfl ?_
  obtain ⟨hh4, ee3, hf⟩ := bV_some hf
  refine xr_callVv C (Cn := RX3) ((h 11 3).toNatClampNeg + 15) (kid_s hk_h_11_3_toNatClampNeg) (kcf_snap hk_h_11_3_toNatClampNeg) rfl [.ref (a 1)] [] (c_X3_takeFrom l dC dI cI cS a hD h ((h 11 3).toNatClampNeg) hk_h_11_3_toNatClampNeg ee3) (cwV 1 C.2.2.1 gX4_add_X3_takeFrom rfl rfl rfl (by decide +kernel) ⟨Nat.le_of_ble_eq_true rfl, Nat.le_of_ble_eq_true rfl⟩) rfl rfl (Nat.le_of_ble_eq_true rfl) dX4_add_12 ?_
  refine xr_aload_n C dX4_add_15 0 rfl rfl ?_
  refine xr_aload_n C dX4_add_16 1 rfl rfl ?_
  refine xr_get C (ci := 4) (Cn := RX4) (T := TX4) (N := 5) (v := .int (hh4 11 4)) 11 (by decide) rfl rfl 4 (by decide) wnX4 wl40 rfl rfl dX4_add_17 ?_
  refine xr_put C (ci := 3) (Cn := RX3) (T := TX3) (N := 7) (ty := .int) (v := hh4 11 4) ((h 11 3).toNatClampNeg + 15) (kid_s hk_h_11_3_toNatClampNeg) (kcf_snap hk_h_11_3_toNatClampNeg) rfl 6 (by decide) wnX3 wl56 rfl tyX3 tyX3_ok nmX3 rfl (by decide +kernel) rfl rfl (Nat.le_of_ble_eq_true rfl) (kcf_snap hk_h_11_3_toNatClampNeg) dX4_add_20 ?_
  refine xr_iconst C (v := 0) dX4_add_23 (by decide +kernel) ?_
  refine xr_istore_n C [(3, .int 0), (2, .ref (a ((h 11 3).toNatClampNeg + 15))), (0, .ref (a 11)), (1, .ref (a 1))] dX4_add_24 rfl (by decide) rfl ?_
  exact xr_sub C [2, 3, 1, 0] rfl (lab25 1000 (u2 hh4 ((h 11 3).toNatClampNeg + 15) 6 (hh4 11 4)) (h 11 3).toNatClampNeg 0 hk_h_11_3_toNatClampNeg hf)
def f_X4_begin (h : hp)  : Option hp := bV (f_X4_add (u2 (u2 (va_up h 12 (va_cpy (h 3) (h 12) (0 : Int32).toNatClampNeg (0 : Int32).toNatClampNeg (512 : Int32).toNatClampNeg)) 11 3 0) 11 4 0)) (fun hh3 => some hh3)
abbrev rmX4_begin : Room := { frames := 3, cells := 0, slots := 0, locals := 62 }
set_option maxHeartbeats 4000000 in
set_option maxRecDepth 100000 in
theorem c_X4_begin (l : Launch) (dC : Nat → ClassId) (dI : Nat → Nat → Nat) (cI cS : ClassId) (a : Nat → Nat) (hD : xD 95 a) (h : hp)  {h9 : hp} (hf : f_X4_begin h  = some h9) : XMv l yX4_begin wsX4_begin rmX4_begin (dC, dI) vwCl (kty cI cS) 95 a (kcf cI cS a) h [.ref (a 11), .ref (a 1)] h9 := by
  refine xm_v (cc := cX4_begin) (maxL := 2) (ws' := wsX4_begin.tail) (by decide) rfl hD (Nat.le_of_ble_eq_true rfl) [(0, .ref (a 11)), (1, .ref (a 1))] rfl RX4 rfl ?_
  intro p e s m args below meth c C hlk hr
  have wl25 : Cond.fieldLink RX4 25 "RewindBox$Machine" "memory" "[I" ∈ wsX4_begin := by decide +kernel
  have wnX2 : ∀ w ∈ u_ws RX2 TX2 8, w ∈ wsX4_begin := by decide +kernel
  have wl9 : Cond.fieldLink RX4 9 "RewindBox$Snapshots" "firstMemory" "[I" ∈ wsX4_begin := by decide +kernel
  have wnX4 : ∀ w ∈ u_ws RX4 TX4 5, w ∈ wsX4_begin := by decide +kernel
  have wa30 : Cond.methodLink RX4 30 arraycopyName ∈ wsX4_begin := by decide +kernel
  have wan : Cond.native arraycopyName ∈ wsX4_begin := by decide +kernel
  have was : Cond.static arraycopyName ∈ wsX4_begin := by decide +kernel
  have wai : Cond.initialized "java/lang/System" ∈ wsX4_begin := by decide +kernel
  have wl36 : Cond.fieldLink RX4 36 "RewindBox$Snapshots" "count" "I" ∈ wsX4_begin := by decide +kernel
  have wl40 : Cond.fieldLink RX4 40 "RewindBox$Snapshots" "pages" "I" ∈ wsX4_begin := by decide +kernel
  unfold f_X4_begin at hf
  refine xr_aload_n C dX4_begin_0 1 rfl rfl ?_
  refine xr_get C (ci := 2) (Cn := RX2) (T := TX2) (N := 8) (v := .ref (a 3)) 1 (by decide) rfl rfl 1 (by decide) wnX2 wl25 rfl rfl dX4_begin_1 ?_
  refine xr_iconst C (v := 0) dX4_begin_4 (by decide +kernel) ?_
  refine xr_aload_n C dX4_begin_5 0 rfl rfl ?_
  refine xr_get C (ci := 4) (Cn := RX4) (T := TX4) (N := 5) (v := .ref (a 12)) 11 (by decide) rfl rfl 0 (by decide) wnX4 wl9 rfl rfl dX4_begin_6 ?_
  refine xr_iconst C (v := 0) dX4_begin_9 (by decide +kernel) ?_
  refine xr_sipush C (v := 512) dX4_begin_10 (by decide +kernel) ?_
  refine xr_copy C 3 12 (by decide) (by decide) 0 rfl (fun _ => rfl) rfl wa30 wan was wai (by decide) (Nat.le_of_ble_eq_true rfl) (Nat.le_of_ble_eq_true rfl) dX4_begin_13 ?_
  refine xr_aload_n C dX4_begin_16 0 rfl rfl ?_
  refine xr_iconst C (v := 0) dX4_begin_17 (by decide +kernel) ?_
  refine xr_put C (ci := 4) (Cn := RX4) (T := TX4) (N := 5) (ty := .int) (v := 0) 11 (by decide) rfl rfl 3 (by decide) wnX4 wl36 rfl tyX4 tyX4_ok nmX4 rfl (by decide +kernel) rfl rfl (Nat.le_of_ble_eq_true rfl) rfl dX4_begin_18 ?_
  refine xr_aload_n C dX4_begin_21 0 rfl rfl ?_
  refine xr_iconst C (v := 0) dX4_begin_22 (by decide +kernel) ?_
  refine xr_put C (ci := 4) (Cn := RX4) (T := TX4) (N := 5) (ty := .int) (v := 0) 11 (by decide) rfl rfl 4 (by decide) wnX4 wl40 rfl tyX4 tyX4_ok nmX4 rfl (by decide +kernel) rfl rfl (Nat.le_of_ble_eq_true rfl) rfl dX4_begin_23 ?_
  refine xr_aload_n C dX4_begin_26 0 rfl rfl ?_
  refine xr_aload_n C dX4_begin_27 1 rfl rfl ?_
  obtain ⟨hh3, ee2, hf⟩ := bV_some hf
  refine xr_callVv C (Cn := RX4) 11 (by decide) rfl rfl [.ref (a 1)] [] (c_X4_add l dC dI cI cS a hD (u2 (u2 (va_up h 12 (va_cpy (h 3) (h 12) (0 : Int32).toNatClampNeg (0 : Int32).toNatClampNeg (512 : Int32).toNatClampNeg)) 11 3 0) 11 4 0) ee2) (cwV 1 C.2.2.1 gX4_begin_X4_add rfl rfl rfl (by decide +kernel) ⟨Nat.le_of_ble_eq_true rfl, Nat.le_of_ble_eq_true rfl⟩) rfl rfl (Nat.le_of_ble_eq_true rfl) dX4_begin_28 ?_
  cases hf
  exact xr_vret C hlk hr dX4_begin_31
def f_X4_keepFirst (h : hp) (x1 : Int32) : Option hp := gd (¬ ((x1 - 1) < 0 ∨ 40 ≤ (x1 - 1).toNatClampNeg)) (bR (f_X3_pageCount (u2 h 11 3 x1) ((x1 - 1).toNatClampNeg)) (fun rr4 => some (u2 (u2 h 11 3 x1) 11 4 ((h ((x1 - 1).toNatClampNeg + 15) 6) + rr4))))
abbrev rmX4_keepFirst : Room := { frames := 2, cells := 0, slots := 0, locals := 40 }
set_option maxHeartbeats 4000000 in
set_option maxRecDepth 100000 in
theorem c_X4_keepFirst (l : Launch) (dC : Nat → ClassId) (dI : Nat → Nat → Nat) (cI cS : ClassId) (a : Nat → Nat) (hD : xD 95 a) (h : hp) (x1 : Int32) {h9 : hp} (hf : f_X4_keepFirst h x1 = some h9) : XMv l yX4_keepFirst wsX4_keepFirst rmX4_keepFirst (dC, dI) vwCl (kty cI cS) 95 a (kcf cI cS a) h [.ref (a 11), .int x1] h9 := by
  refine xm_v (cc := cX4_keepFirst) (maxL := 3) (ws' := wsX4_keepFirst.tail) (by decide) rfl hD (Nat.le_of_ble_eq_true rfl) [(0, .ref (a 11)), (1, .int x1)] rfl RX4 rfl ?_
  intro p e s m args below meth c C hlk hr
  have wl20 : Cond.fieldLink RX4 20 "RewindBox$Snapshots" "row" "[LRewindBox$Snapshot;" ∈ wsX4_keepFirst := by decide +kernel
  have wnX4 : ∀ w ∈ u_ws RX4 TX4 5, w ∈ wsX4_keepFirst := by decide +kernel
  have wl36 : Cond.fieldLink RX4 36 "RewindBox$Snapshots" "count" "I" ∈ wsX4_keepFirst := by decide +kernel
  have wl56 : Cond.fieldLink RX4 56 "RewindBox$Snapshot" "firstPage" "I" ∈ wsX4_keepFirst := by decide +kernel
  have wnX3 : ∀ w ∈ u_ws RX3 TX3 7, w ∈ wsX4_keepFirst := by decide +kernel
  have wl40 : Cond.fieldLink RX4 40 "RewindBox$Snapshots" "pages" "I" ∈ wsX4_keepFirst := by decide +kernel
  unfold f_X4_keepFirst at hf
  refine xr_aload_n C dX4_keepFirst_0 0 rfl rfl ?_
  refine xr_get C (ci := 4) (Cn := RX4) (T := TX4) (N := 5) (v := .ref (a 14)) 11 (by decide) rfl rfl 2 (by decide) wnX4 wl20 rfl rfl dX4_keepFirst_1 ?_
  refine xr_iload_n C dX4_keepFirst_4 1 rfl rfl ?_
  refine xr_iconst C (v := 1) dX4_keepFirst_5 (by decide +kernel) ?_
  refine xr_isub C dX4_keepFirst_6 ?_
  obtain ⟨gg1, hf⟩ := gd_some hf
  refine xr_aald C (f := fun k => some (a (k + 15))) 14 (by decide) 1 rfl rfl gg1 rfl dX4_keepFirst_7 ?_
  have hk_x1_1_toNatClampNeg := gd_lt gg1
  refine xr_astore_n C [(2, .ref (a ((x1 - 1).toNatClampNeg + 15))), (0, .ref (a 11)), (1, .int x1)] dX4_keepFirst_8 rfl (by decide) rfl ?_
  refine xr_aload_n C dX4_keepFirst_9 1 rfl rfl ?_
  refine xr_iload_n C dX4_keepFirst_10 2 rfl rfl ?_
  refine xr_put C (ci := 4) (Cn := RX4) (T := TX4) (N := 5) (ty := .int) (v := x1) 11 (by decide) rfl rfl 3 (by decide) wnX4 wl36 rfl tyX4 tyX4_ok nmX4 rfl (by decide +kernel) rfl rfl (Nat.le_of_ble_eq_true rfl) rfl dX4_keepFirst_11 ?_
  refine xr_aload_n C dX4_keepFirst_14 1 rfl rfl ?_
  refine xr_aload_n C dX4_keepFirst_15 0 rfl rfl ?_
  refine xr_get C (ci := 3) (Cn := RX3) (T := TX3) (N := 7) (v := .int (h ((x1 - 1).toNatClampNeg + 15) 6)) ((x1 - 1).toNatClampNeg + 15) (kid_s hk_x1_1_toNatClampNeg) (kcf_snap hk_x1_1_toNatClampNeg) rfl 6 (by decide) wnX3 wl56 rfl rfl dX4_keepFirst_16 ?_
  refine xr_aload_n C dX4_keepFirst_19 0 rfl rfl ?_
  obtain ⟨rr4, ee3, hf⟩ := bR_some hf
  refine xr_callVi C (Cn := RX3) ((x1 - 1).toNatClampNeg + 15) (kid_s hk_x1_1_toNatClampNeg) (kcf_snap hk_x1_1_toNatClampNeg) rfl [] [.int (h ((x1 - 1).toNatClampNeg + 15) 6), .ref (a 11)] (c_X3_pageCount l dC dI cI cS a hD (u2 h 11 3 x1) ((x1 - 1).toNatClampNeg) hk_x1_1_toNatClampNeg ee3) (cwV 0 C.2.2.1 gX4_keepFirst_X3_pageCount rfl rfl rfl (by decide +kernel) ⟨Nat.le_of_ble_eq_true rfl, Nat.le_of_ble_eq_true rfl⟩) rfl rfl (Nat.le_of_ble_eq_true rfl) dX4_keepFirst_20 ?_
  refine xr_iadd C dX4_keepFirst_23 ?_
  refine xr_put C (ci := 4) (Cn := RX4) (T := TX4) (N := 5) (ty := .int) (v := ((h ((x1 - 1).toNatClampNeg + 15) 6) + rr4)) 11 (by decide) rfl rfl 4 (by decide) wnX4 wl40 rfl tyX4 tyX4_ok nmX4 rfl (by decide +kernel) rfl rfl (Nat.le_of_ble_eq_true rfl) rfl dX4_keepFirst_24 ?_
  cases hf
  exact xr_vret C hlk hr dX4_keepFirst_27
def f_X4_layPages_8 : Nat → hp → Nat → Int32 → Int32 → Option hp
  | 0, _, _, _, _ => none
  | n + 1, h, k1, x3, x4 => if 32 ≤ x4 then (some h) else (bR (f_X3_hasPage h k1 x4) (fun rr4 => if rr4 = 0 then (f_X4_layPages_8 n h k1 x3 (x4 + 1)) else (gd ((¬ (x3 * 16) < 0 ∧ ¬ (x4 * 16) < 0 ∧ ¬ (16 : Int32) < 0) ∧ (x3 * 16).toNatClampNeg + (16 : Int32).toNatClampNeg ≤ 4800 ∧ (x4 * 16).toNatClampNeg + (16 : Int32).toNatClampNeg ≤ 512) (f_X4_layPages_8 n (va_up h 3 (va_cpy (h 13) (h 3) (x3 * 16).toNatClampNeg (x4 * 16).toNatClampNeg (16 : Int32).toNatClampNeg)) k1 (x3 + 1) (x4 + 1)))))
def f_X4_layPages (h : hp) (k : Nat) : Option hp := gl (h (k + 15) 6) (fun v1 => f_X4_layPages_8 1000 h k v1 0)
abbrev rmX4_layPages : Room := { frames := 1, cells := 0, slots := 0, locals := 21 }
set_option maxHeartbeats 4000000 in
set_option maxRecDepth 100000 in
theorem c_X4_layPages (l : Launch) (dC : Nat → ClassId) (dI : Nat → Nat → Nat) (cI cS : ClassId) (a : Nat → Nat) (hD : xD 95 a) (h : hp) (k : Nat) (hkk : k < 40) {h9 : hp} (hf : f_X4_layPages h k = some h9) : XMv l yX4_layPages wsX4_layPages rmX4_layPages (dC, dI) vwCl (kty cI cS) 95 a (kcf cI cS a) h [.ref (a 11), .ref (a (k + 15)), .ref (a 3)] h9 := by
  refine xm_v (cc := cX4_layPages) (maxL := 5) (ws' := wsX4_layPages.tail) (by decide) rfl hD (Nat.le_of_ble_eq_true rfl) [(0, .ref (a 11)), (1, .ref (a (k + 15))), (2, .ref (a 3))] rfl RX4 rfl ?_
  intro p e s m args below meth c C hlk hr
  have wl56 : Cond.fieldLink RX4 56 "RewindBox$Snapshot" "firstPage" "I" ∈ wsX4_layPages := by decide +kernel
  have wnX3 : ∀ w ∈ u_ws RX3 TX3 7, w ∈ wsX4_layPages := by decide +kernel
  have wl15 : Cond.fieldLink RX4 15 "RewindBox$Snapshots" "pageWords" "[I" ∈ wsX4_layPages := by decide +kernel
  have wnX4 : ∀ w ∈ u_ws RX4 TX4 5, w ∈ wsX4_layPages := by decide +kernel
  have wa30 : Cond.methodLink RX4 30 arraycopyName ∈ wsX4_layPages := by decide +kernel
  have wan : Cond.native arraycopyName ∈ wsX4_layPages := by decide +kernel
  have was : Cond.static arraycopyName ∈ wsX4_layPages := by decide +kernel
  have wai : Cond.initialized "java/lang/System" ∈ wsX4_layPages := by decide +kernel
  have lab8 : ∀ (n : Nat) (h : hp) (k1 : Nat) (x3 : Int32) (x4 : Int32) (hkk1 : k1 < 40), f_X4_layPages_8 n h k1 x3 x4 = some h9 → XJ p l e rmX4_layPages s m args below meth c (dC, dI) vwCl 95 a (kcf cI cS a) 5 (MQ below (XQv (dC, dI) vwCl 95 a (kcf cI cS a) h9) args s 0 0 (xA 95 a)) h [(0, .ref (a 11)), (1, .ref (a (k1 + 15))), (2, .ref (a 3)), (3, .int x3), (4, .int x4)] [] 8 := by
    intro n
    induction n with
    | zero => intro h k1 x3 x4 _ hf; simp [f_X4_layPages_8] at hf
    | succ n ih =>
      intro h k1 x3 x4 hkk1 hf
      rw [f_X4_layPages_8] at hf
      refine xr_iload C dX4_layPages_8 4 rfl ?_
      refine xr_bipush C (v := 32) dX4_layPages_10 (by decide +kernel) ?_
      refine xr_icmp_ge C 52 dX4_layPages_12 (by decide) (fun cd2 => ?_) (fun cd2 => ?_)
      · rw [if_pos cd2] at hf
        cases hf
        exact xr_vret C hlk hr dX4_layPages_52
      · rw [if_neg cd2] at hf
        refine xr_aload_n C dX4_layPages_15 1 rfl rfl ?_
        refine xr_iload C dX4_layPages_16 4 rfl ?_
        obtain ⟨rr4, ee3, hf⟩ := bR_some hf
        refine xr_callVi C (Cn := RX3) (k1 + 15) (kid_s hkk1) (kcf_snap hkk1) rfl [.int x4] [] (c_X3_hasPage l dC dI cI cS a hD h k1 hkk1 x4 ee3) (cwV 1 C.2.2.1 gX4_layPages_X3_hasPage rfl rfl rfl (by decide +kernel) ⟨Nat.le_of_ble_eq_true rfl, Nat.le_of_ble_eq_true rfl⟩) rfl rfl (Nat.le_of_ble_eq_true rfl) dX4_layPages_18 ?_
        refine xr_if_eq C 46 dX4_layPages_21 (by decide) (fun cd5 => ?_) (fun cd5 => ?_)
        · rw [if_pos cd5] at hf
          refine xr_iinc C [(4, .int (x4 + 1)), (0, .ref (a 11)), (1, .ref (a (k1 + 15))), (2, .ref (a 3)), (3, .int x3)] dX4_layPages_46 4 rfl rfl (by decide) rfl ?_
          refine xr_goto C 8 dX4_layPages_49 (by decide) ?_
          exact xr_sub C [1, 2, 3, 4, 0] rfl (ih h k1 x3 (x4 + 1) hkk1 hf)
        · rw [if_neg cd5] at hf
          refine xr_aload_n C dX4_layPages_24 0 rfl rfl ?_
          refine xr_get C (ci := 4) (Cn := RX4) (T := TX4) (N := 5) (v := .ref (a 13)) 11 (by decide) rfl rfl 1 (by decide) wnX4 wl15 rfl rfl dX4_layPages_25 ?_
          refine xr_iload_n C dX4_layPages_28 3 rfl rfl ?_
          refine xr_bipush C (v := 16) dX4_layPages_29 (by decide +kernel) ?_
          refine xr_imul C dX4_layPages_31 ?_
          refine xr_aload_n C dX4_layPages_32 2 rfl rfl ?_
          refine xr_iload C dX4_layPages_33 4 rfl ?_
          refine xr_bipush C (v := 16) dX4_layPages_35 (by decide +kernel) ?_
          refine xr_imul C dX4_layPages_37 ?_
          refine xr_bipush C (v := 16) dX4_layPages_38 (by decide +kernel) ?_
          obtain ⟨gg6, hf⟩ := gd_some hf
          refine xr_copy C 13 3 (by decide) (by decide) 0 rfl (fun _ => rfl) rfl wa30 wan was wai gg6 (Nat.le_of_ble_eq_true rfl) (Nat.le_of_ble_eq_true rfl) dX4_layPages_40 ?_
          refine xr_iinc C [(3, .int (x3 + 1)), (0, .ref (a 11)), (1, .ref (a (k1 + 15))), (2, .ref (a 3)), (4, .int x4)] dX4_layPages_43 3 rfl rfl (by decide) rfl ?_
          refine xr_iinc C [(4, .int (x4 + 1)), (3, .int (x3 + 1)), (0, .ref (a 11)), (1, .ref (a (k1 + 15))), (2, .ref (a 3))] dX4_layPages_46 4 rfl rfl (by decide) rfl ?_
          refine xr_goto C 8 dX4_layPages_49 (by decide) ?_
          exact xr_sub C [2, 3, 4, 1, 0] rfl (ih (va_up h 3 (va_cpy (h 13) (h 3) (x3 * 16).toNatClampNeg (x4 * 16).toNatClampNeg (16 : Int32).toNatClampNeg)) k1 (x3 + 1) (x4 + 1) hkk1 hf)
  unfold f_X4_layPages at hf
  refine xr_aload_n C dX4_layPages_0 1 rfl rfl ?_
  refine xr_get C (ci := 3) (Cn := RX3) (T := TX3) (N := 7) (v := .int (h (k + 15) 6)) (k + 15) (kid_s hkk) (kcf_snap hkk) rfl 6 (by decide) wnX3 wl56 rfl rfl dX4_layPages_1 ?_
  refine xr_topi C (fun v1 ev1 => ?_)
  have hf := gl_at hf v1 ev1
  refine xr_istore_n C [(3, .int v1), (0, .ref (a 11)), (1, .ref (a (k + 15))), (2, .ref (a 3))] dX4_layPages_4 rfl (by decide) rfl ?_
  refine xr_iconst C (v := 0) dX4_layPages_5 (by decide +kernel) ?_
  refine xr_istore C [(4, .int 0), (3, .int v1), (0, .ref (a 11)), (1, .ref (a (k + 15))), (2, .ref (a 3))] dX4_layPages_6 (by decide) rfl ?_
  exact xr_sub C [2, 3, 4, 1, 0] rfl (lab8 1000 h k v1 0 hkk hf)
def f_X4_restore_18 : Nat → hp → Int32 → Int32 → Option hp
  | 0, _, _, _ => none
  | n + 1, h, x1, x3 => if x1 < x3 then (gd (¬ (x1 < 0 ∨ 40 ≤ x1.toNatClampNeg)) (bV (f_X3_giveBackTo h x1.toNatClampNeg) (fun hh6 => some hh6))) else (gd (¬ (x3 < 0 ∨ 40 ≤ x3.toNatClampNeg)) (bV (f_X4_layPages h x3.toNatClampNeg) (fun hh10 => f_X4_restore_18 n hh10 x1 (x3 + 1))))
def f_X4_restore (h : hp) (x1 : Int32) : Option hp := f_X4_restore_18 1000 (va_up h 3 (va_cpy (h 12) (h 3) (0 : Int32).toNatClampNeg (0 : Int32).toNatClampNeg (512 : Int32).toNatClampNeg)) x1 1
abbrev rmX4_restore : Room := { frames := 2, cells := 0, slots := 0, locals := 45 }
set_option maxHeartbeats 4000000 in
set_option maxRecDepth 100000 in
theorem c_X4_restore (l : Launch) (dC : Nat → ClassId) (dI : Nat → Nat → Nat) (cI cS : ClassId) (a : Nat → Nat) (hD : xD 95 a) (h : hp) (x1 : Int32) {h9 : hp} (hf : f_X4_restore h x1 = some h9) : XMv l yX4_restore wsX4_restore rmX4_restore (dC, dI) vwCl (kty cI cS) 95 a (kcf cI cS a) h [.ref (a 11), .int x1, .ref (a 1)] h9 := by
  refine xm_v (cc := cX4_restore) (maxL := 4) (ws' := wsX4_restore.tail) (by decide) rfl hD (Nat.le_of_ble_eq_true rfl) [(0, .ref (a 11)), (1, .int x1), (2, .ref (a 1))] rfl RX4 rfl ?_
  intro p e s m args below meth c C hlk hr
  have wl9 : Cond.fieldLink RX4 9 "RewindBox$Snapshots" "firstMemory" "[I" ∈ wsX4_restore := by decide +kernel
  have wnX4 : ∀ w ∈ u_ws RX4 TX4 5, w ∈ wsX4_restore := by decide +kernel
  have wl25 : Cond.fieldLink RX4 25 "RewindBox$Machine" "memory" "[I" ∈ wsX4_restore := by decide +kernel
  have wnX2 : ∀ w ∈ u_ws RX2 TX2 8, w ∈ wsX4_restore := by decide +kernel
  have wa30 : Cond.methodLink RX4 30 arraycopyName ∈ wsX4_restore := by decide +kernel
  have wan : Cond.native arraycopyName ∈ wsX4_restore := by decide +kernel
  have was : Cond.static arraycopyName ∈ wsX4_restore := by decide +kernel
  have wai : Cond.initialized "java/lang/System" ∈ wsX4_restore := by decide +kernel
  have wl20 : Cond.fieldLink RX4 20 "RewindBox$Snapshots" "row" "[LRewindBox$Snapshot;" ∈ wsX4_restore := by decide +kernel
  have lab18 : ∀ (n : Nat) (h : hp) (x1 : Int32) (x3 : Int32) , f_X4_restore_18 n h x1 x3 = some h9 → XJ p l e rmX4_restore s m args below meth c (dC, dI) vwCl 95 a (kcf cI cS a) 4 (MQ below (XQv (dC, dI) vwCl 95 a (kcf cI cS a) h9) args s 0 0 (xA 95 a)) h [(0, .ref (a 11)), (1, .int x1), (2, .ref (a 1)), (3, .int x3)] [] 18 := by
    intro n
    induction n with
    | zero => intro h x1 x3  hf; simp [f_X4_restore_18] at hf
    | succ n ih =>
      intro h x1 x3  hf
      rw [f_X4_restore_18] at hf
      refine xr_iload_n C dX4_restore_18 3 rfl rfl ?_
      refine xr_iload_n C dX4_restore_19 1 rfl rfl ?_
      refine xr_icmp_gt C 43 dX4_restore_20 (by decide) (fun cd2 => ?_) (fun cd2 => ?_)
      · rw [if_pos cd2] at hf
        refine xr_aload_n C dX4_restore_43 0 rfl rfl ?_
        refine xr_get C (ci := 4) (Cn := RX4) (T := TX4) (N := 5) (v := .ref (a 14)) 11 (by decide) rfl rfl 2 (by decide) wnX4 wl20 rfl rfl dX4_restore_44 ?_
        refine xr_iload_n C dX4_restore_47 1 rfl rfl ?_
        obtain ⟨gg3, hf⟩ := gd_some hf
        refine xr_aald C (f := fun k => some (a (k + 15))) 14 (by decide) 1 rfl rfl gg3 rfl dX4_restore_48 ?_
        have hkx1_toNatClampNeg := gd_lt gg3
        refine xr_aload_n C dX4_restore_49 2 rfl rfl ?_
        obtain ⟨hh6, ee5, hf⟩ := bV_some hf
        refine xr_callVv C (Cn := RX3) (x1.toNatClampNeg + 15) (kid_s hkx1_toNatClampNeg) (kcf_snap hkx1_toNatClampNeg) rfl [.ref (a 1)] [] (c_X3_giveBackTo l dC dI cI cS a hD h x1.toNatClampNeg hkx1_toNatClampNeg ee5) (cwV 1 C.2.2.1 gX4_restore_X3_giveBackTo rfl rfl rfl (by decide +kernel) ⟨Nat.le_of_ble_eq_true rfl, Nat.le_of_ble_eq_true rfl⟩) rfl rfl (Nat.le_of_ble_eq_true rfl) dX4_restore_50 ?_
        cases hf
        exact xr_vret C hlk hr dX4_restore_53
      · rw [if_neg cd2] at hf
        refine xr_aload_n C dX4_restore_23 0 rfl rfl ?_
        refine xr_aload_n C dX4_restore_24 0 rfl rfl ?_
        refine xr_get C (ci := 4) (Cn := RX4) (T := TX4) (N := 5) (v := .ref (a 14)) 11 (by decide) rfl rfl 2 (by decide) wnX4 wl20 rfl rfl dX4_restore_25 ?_
        refine xr_iload_n C dX4_restore_28 3 rfl rfl ?_
        obtain ⟨gg7, hf⟩ := gd_some hf
        refine xr_aald C (f := fun k => some (a (k + 15))) 14 (by decide) 1 rfl rfl gg7 rfl dX4_restore_29 ?_
        have hkx3_toNatClampNeg := gd_lt gg7
        refine xr_aload_n C dX4_restore_30 2 rfl rfl ?_
        refine xr_get C (ci := 2) (Cn := RX2) (T := TX2) (N := 8) (v := .ref (a 3)) 1 (by decide) rfl rfl 1 (by decide) wnX2 wl25 rfl rfl dX4_restore_31 ?_
        obtain ⟨hh10, ee9, hf⟩ := bV_some hf
        refine xr_callVv C (Cn := RX4) 11 (by decide) rfl rfl [.ref (a (x3.toNatClampNeg + 15)), .ref (a 3)] [] (c_X4_layPages l dC dI cI cS a hD h x3.toNatClampNeg hkx3_toNatClampNeg ee9) (cwV 2 C.2.2.1 gX4_restore_X4_layPages rfl rfl rfl (by decide +kernel) ⟨Nat.le_of_ble_eq_true rfl, Nat.le_of_ble_eq_true rfl⟩) rfl rfl (Nat.le_of_ble_eq_true rfl) dX4_restore_34 ?_
        refine xr_iinc C [(3, .int (x3 + 1)), (0, .ref (a 11)), (1, .int x1), (2, .ref (a 1))] dX4_restore_37 3 rfl rfl (by decide) rfl ?_
        refine xr_goto C 18 dX4_restore_40 (by decide) ?_
        exact xr_sub C [1, 2, 3, 0] rfl (ih hh10 x1 (x3 + 1)  hf)
  unfold f_X4_restore at hf
  refine xr_aload_n C dX4_restore_0 0 rfl rfl ?_
  refine xr_get C (ci := 4) (Cn := RX4) (T := TX4) (N := 5) (v := .ref (a 12)) 11 (by decide) rfl rfl 0 (by decide) wnX4 wl9 rfl rfl dX4_restore_1 ?_
  refine xr_iconst C (v := 0) dX4_restore_4 (by decide +kernel) ?_
  refine xr_aload_n C dX4_restore_5 2 rfl rfl ?_
  refine xr_get C (ci := 2) (Cn := RX2) (T := TX2) (N := 8) (v := .ref (a 3)) 1 (by decide) rfl rfl 1 (by decide) wnX2 wl25 rfl rfl dX4_restore_6 ?_
  refine xr_iconst C (v := 0) dX4_restore_9 (by decide +kernel) ?_
  refine xr_sipush C (v := 512) dX4_restore_10 (by decide +kernel) ?_
  refine xr_copy C 12 3 (by decide) (by decide) 0 rfl (fun _ => rfl) rfl wa30 wan was wai (by decide) (Nat.le_of_ble_eq_true rfl) (Nat.le_of_ble_eq_true rfl) dX4_restore_13 ?_
  refine xr_iconst C (v := 1) dX4_restore_16 (by decide +kernel) ?_
  refine xr_istore_n C [(3, .int 1), (0, .ref (a 11)), (1, .int x1), (2, .ref (a 1))] dX4_restore_17 rfl (by decide) rfl ?_
  exact xr_sub C [1, 2, 3, 0] rfl (lab18 1000 (va_up h 3 (va_cpy (h 12) (h 3) (0 : Int32).toNatClampNeg (0 : Int32).toNatClampNeg (512 : Int32).toNatClampNeg)) x1 1  hf)
end
section
def f_X5_poke (h : hp) (x1 : Int32) (x2 : Int32) : Option (Int32 × hp) := if h 0 5 = 0 then (if (f_X5_isPlace x1) = 0 then (some (0, h)) else (gd (¬ (x1 < 0 ∨ 512 ≤ x1.toNatClampNeg)) (some (1, (u2 h 3 x1.toNatClampNeg x2))))) else (some (0, h))
abbrev rmX5_poke : Room := { frames := 1, cells := 0, slots := 0, locals := 20 }
set_option maxHeartbeats 4000000 in
set_option maxRecDepth 100000 in
theorem c_X5_poke (l : Launch) (dC : Nat → ClassId) (dI : Nat → Nat → Nat) (cI cS : ClassId) (a : Nat → Nat) (hD : xD 95 a) (h : hp) (x1 : Int32) (x2 : Int32) {r9 : Int32} {h9 : hp} (hf : f_X5_poke h x1 x2 = some (r9, h9)) : XMi l yX5_poke wsX5_poke rmX5_poke (dC, dI) vwCl (kty cI cS) 95 a (kcf cI cS a) h [.ref (a 0), .int x1, .int x2] r9 h9 := by
  refine xm_i (cc := cX5_poke) (maxL := 3) (ws' := wsX5_poke.tail) (by decide) rfl hD (Nat.le_of_ble_eq_true rfl) [(0, .ref (a 0)), (1, .int x1), (2, .int x2)] rfl RX5 rfl ?_
  intro p e s m args below meth c C hlk hr
  have wl50 : Cond.fieldLink RX5 50 "RewindBox" "recording" "Z" ∈ wsX5_poke := by decide +kernel
  have wnX5 : ∀ w ∈ u_ws RX5 TX5 9, w ∈ wsX5_poke := by decide +kernel
  have wl25 : Cond.fieldLink RX5 25 "RewindBox" "machine" "LRewindBox$Machine;" ∈ wsX5_poke := by decide +kernel
  have wl58 : Cond.fieldLink RX5 58 "RewindBox$Machine" "memory" "[I" ∈ wsX5_poke := by decide +kernel
  have wnX2 : ∀ w ∈ u_ws RX2 TX2 8, w ∈ wsX5_poke := by decide +kernel
  unfold f_X5_poke at hf
  refine xr_aload_n C dX5_poke_0 0 rfl rfl ?_
  refine xr_get C (ci := 5) (Cn := RX5) (T := TX5) (N := 9) (v := .int (h 0 5)) 0 (by decide) rfl rfl 5 (by decide) wnX5 wl50 rfl rfl dX5_poke_1 ?_
  refine xr_if_ne C 14 dX5_poke_4 (by decide) (fun cd1 => ?_) (fun cd1 => ?_)
  · rw [if_neg cd1] at hf
    refine xr_iconst C (v := 0) dX5_poke_14 (by decide +kernel) ?_
    cases hf
    exact xr_zret C hlk hr (by decide +kernel) dX5_poke_15
  · rw [if_pos cd1] at hf
    refine xr_iload_n C dX5_poke_7 1 rfl rfl ?_
    refine xr_callSi C [.int x1] [] (c_X5_isPlace l dC dI cI cS a hD h x1 rfl) (va_cwS 1 C.2.2.1 gX5_poke_X5_isPlace rfl rfl rfl (by decide +kernel) ⟨Nat.le_of_ble_eq_true rfl, Nat.le_of_ble_eq_true rfl⟩) rfl rfl (Nat.le_of_ble_eq_true rfl) dX5_poke_8 ?_
    refine xr_if_ne C 16 dX5_poke_11 (by decide) (fun cd2 => ?_) (fun cd2 => ?_)
    · rw [if_neg cd2] at hf
      refine xr_aload_n C dX5_poke_16 0 rfl rfl ?_
      refine xr_get C (ci := 5) (Cn := RX5) (T := TX5) (N := 9) (v := .ref (a 1)) 0 (by decide) rfl rfl 1 (by decide) wnX5 wl25 rfl rfl dX5_poke_17 ?_
      refine xr_get C (ci := 2) (Cn := RX2) (T := TX2) (N := 8) (v := .ref (a 3)) 1 (by decide) rfl rfl 1 (by decide) wnX2 wl58 rfl rfl dX5_poke_20 ?_
      refine xr_iload_n C dX5_poke_23 1 rfl rfl ?_
      refine xr_iload_n C dX5_poke_24 2 rfl rfl ?_
      obtain ⟨gg3, hf⟩ := gd_some hf
      refine xr_iast C 3 (by decide) 0 (fun _ => rfl) rfl gg3 dX5_poke_25 ?_
      refine xr_iconst C (v := 1) dX5_poke_26 (by decide +kernel) ?_
      cases hf
      exact xr_zret C hlk hr (by decide +kernel) dX5_poke_27
    · rw [if_pos cd2] at hf
      refine xr_iconst C (v := 0) dX5_poke_14 (by decide +kernel) ?_
      cases hf
      exact xr_zret C hlk hr (by decide +kernel) dX5_poke_15
def f_X5_start (h : hp)  : Option hp := bV (f_X2_reset h) (fun hh2 => bV (f_X0_clear hh2) (fun hh4 => bV (f_X4_begin (u2 hh4 7 3 0)) (fun hh6 => some (u2 (u2 (u2 (u2 hh6 0 5 1) 0 6 0) 0 7 0) 0 8 0))))
abbrev rmX5_start : Room := { frames := 4, cells := 0, slots := 0, locals := 83 }
set_option maxHeartbeats 4000000 in
set_option maxRecDepth 100000 in
theorem c_X5_start (l : Launch) (dC : Nat → ClassId) (dI : Nat → Nat → Nat) (cI cS : ClassId) (a : Nat → Nat) (hD : xD 95 a) (h : hp)  {h9 : hp} (hf : f_X5_start h  = some h9) : XMv l yX5_start wsX5_start rmX5_start (dC, dI) vwCl (kty cI cS) 95 a (kcf cI cS a) h [.ref (a 0)] h9 := by
  refine xm_v (cc := cX5_start) (maxL := 1) (ws' := wsX5_start.tail) (by decide) rfl hD (Nat.le_of_ble_eq_true rfl) [(0, .ref (a 0))] rfl RX5 rfl ?_
  intro p e s m args below meth c C hlk hr
  have wl25 : Cond.fieldLink RX5 25 "RewindBox" "machine" "LRewindBox$Machine;" ∈ wsX5_start := by decide +kernel
  have wnX5 : ∀ w ∈ u_ws RX5 TX5 9, w ∈ wsX5_start := by decide +kernel
  have wl32 : Cond.fieldLink RX5 32 "RewindBox" "inputs" "LRewindBox$Inputs;" ∈ wsX5_start := by decide +kernel
  have wl39 : Cond.fieldLink RX5 39 "RewindBox" "entries" "LRewindBox$Log;" ∈ wsX5_start := by decide +kernel
  have wl68 : Cond.fieldLink RX5 68 "RewindBox$Log" "count" "I" ∈ wsX5_start := by decide +kernel
  have wnX1 : ∀ w ∈ u_ws RX1 TX1 4, w ∈ wsX5_start := by decide +kernel
  have wl46 : Cond.fieldLink RX5 46 "RewindBox" "snapshots" "LRewindBox$Snapshots;" ∈ wsX5_start := by decide +kernel
  have wl50 : Cond.fieldLink RX5 50 "RewindBox" "recording" "Z" ∈ wsX5_start := by decide +kernel
  have wl75 : Cond.fieldLink RX5 75 "RewindBox" "ringCame" "Z" ∈ wsX5_start := by decide +kernel
  have wl78 : Cond.fieldLink RX5 78 "RewindBox" "now" "I" ∈ wsX5_start := by decide +kernel
  have wl81 : Cond.fieldLink RX5 81 "RewindBox" "end" "I" ∈ wsX5_start := by decide +kernel
  unfold f_X5_start at hf
  refine xr_aload_n C dX5_start_0 0 rfl rfl ?_
  refine xr_get C (ci := 5) (Cn := RX5) (T := TX5) (N := 9) (v := .ref (a 1)) 0 (by decide) rfl rfl 1 (by decide) wnX5 wl25 rfl rfl dX5_start_1 ?_
  obtain ⟨hh2, ee1, hf⟩ := bV_some hf
  refine xr_callVv C (Cn := RX2) 1 (by decide) rfl rfl [] [] (c_X2_reset l dC dI cI cS a hD h ee1) (cwV 0 C.2.2.1 gX5_start_X2_reset rfl rfl rfl (by decide +kernel) ⟨Nat.le_of_ble_eq_true rfl, Nat.le_of_ble_eq_true rfl⟩) rfl rfl (Nat.le_of_ble_eq_true rfl) dX5_start_4 ?_
  refine xr_aload_n C dX5_start_7 0 rfl rfl ?_
  refine xr_get C (ci := 5) (Cn := RX5) (T := TX5) (N := 9) (v := .ref (a 5)) 0 (by decide) rfl rfl 2 (by decide) wnX5 wl32 rfl rfl dX5_start_8 ?_
  obtain ⟨hh4, ee3, hf⟩ := bV_some hf
  refine xr_callVv C (Cn := RX0) 5 (by decide) rfl rfl [] [] (c_X0_clear l dC dI cI cS a hD hh2 ee3) (cwV 0 C.2.2.1 gX5_start_X0_clear rfl rfl rfl (by decide +kernel) ⟨Nat.le_of_ble_eq_true rfl, Nat.le_of_ble_eq_true rfl⟩) rfl rfl (Nat.le_of_ble_eq_true rfl) dX5_start_11 ?_
  refine xr_aload_n C dX5_start_14 0 rfl rfl ?_
  refine xr_get C (ci := 5) (Cn := RX5) (T := TX5) (N := 9) (v := .ref (a 7)) 0 (by decide) rfl rfl 3 (by decide) wnX5 wl39 rfl rfl dX5_start_15 ?_
  refine xr_iconst C (v := 0) dX5_start_18 (by decide +kernel) ?_
  refine xr_put C (ci := 1) (Cn := RX1) (T := TX1) (N := 4) (ty := .int) (v := 0) 7 (by decide) rfl rfl 3 (by decide) wnX1 wl68 rfl tyX1 tyX1_ok nmX1 rfl (by decide +kernel) rfl rfl (Nat.le_of_ble_eq_true rfl) rfl dX5_start_19 ?_
  refine xr_aload_n C dX5_start_22 0 rfl rfl ?_
  refine xr_get C (ci := 5) (Cn := RX5) (T := TX5) (N := 9) (v := .ref (a 11)) 0 (by decide) rfl rfl 4 (by decide) wnX5 wl46 rfl rfl dX5_start_23 ?_
  refine xr_aload_n C dX5_start_26 0 rfl rfl ?_
  refine xr_get C (ci := 5) (Cn := RX5) (T := TX5) (N := 9) (v := .ref (a 1)) 0 (by decide) rfl rfl 1 (by decide) wnX5 wl25 rfl rfl dX5_start_27 ?_
  obtain ⟨hh6, ee5, hf⟩ := bV_some hf
  refine xr_callVv C (Cn := RX4) 11 (by decide) rfl rfl [.ref (a 1)] [] (c_X4_begin l dC dI cI cS a hD (u2 hh4 7 3 0) ee5) (cwV 1 C.2.2.1 gX5_start_X4_begin rfl rfl rfl (by decide +kernel) ⟨Nat.le_of_ble_eq_true rfl, Nat.le_of_ble_eq_true rfl⟩) rfl rfl (Nat.le_of_ble_eq_true rfl) dX5_start_30 ?_
  refine xr_aload_n C dX5_start_33 0 rfl rfl ?_
  refine xr_iconst C (v := 1) dX5_start_34 (by decide +kernel) ?_
  refine xr_put C (ci := 5) (Cn := RX5) (T := TX5) (N := 9) (ty := .boolean) (v := 1) 0 (by decide) rfl rfl 5 (by decide) wnX5 wl50 rfl tyX5 tyX5_ok nmX5 rfl (by decide +kernel) (by decide +kernel) (by decide +kernel) (Nat.le_of_ble_eq_true rfl) rfl dX5_start_35 ?_
  refine xr_aload_n C dX5_start_38 0 rfl rfl ?_
  refine xr_iconst C (v := 0) dX5_start_39 (by decide +kernel) ?_
  refine xr_put C (ci := 5) (Cn := RX5) (T := TX5) (N := 9) (ty := .boolean) (v := 0) 0 (by decide) rfl rfl 6 (by decide) wnX5 wl75 rfl tyX5 tyX5_ok nmX5 rfl (by decide +kernel) (by decide +kernel) (by decide +kernel) (Nat.le_of_ble_eq_true rfl) rfl dX5_start_40 ?_
  refine xr_aload_n C dX5_start_43 0 rfl rfl ?_
  refine xr_iconst C (v := 0) dX5_start_44 (by decide +kernel) ?_
  refine xr_put C (ci := 5) (Cn := RX5) (T := TX5) (N := 9) (ty := .int) (v := 0) 0 (by decide) rfl rfl 7 (by decide) wnX5 wl78 rfl tyX5 tyX5_ok nmX5 rfl (by decide +kernel) rfl rfl (Nat.le_of_ble_eq_true rfl) rfl dX5_start_45 ?_
  refine xr_aload_n C dX5_start_48 0 rfl rfl ?_
  refine xr_iconst C (v := 0) dX5_start_49 (by decide +kernel) ?_
  refine xr_put C (ci := 5) (Cn := RX5) (T := TX5) (N := 9) (ty := .int) (v := 0) 0 (by decide) rfl rfl 8 (by decide) wnX5 wl81 rfl tyX5 tyX5_ok nmX5 rfl (by decide +kernel) rfl rfl (Nat.le_of_ble_eq_true rfl) rfl dX5_start_50 ?_
  cases hf
  exact xr_vret C hlk hr dX5_start_53
def f_X5_stop (h : hp)  : Option hp := some (u2 h 0 5 0)
abbrev rmX5_stop : Room := { frames := 0, cells := 0, slots := 0, locals := 0 }
set_option maxHeartbeats 4000000 in
set_option maxRecDepth 100000 in
theorem c_X5_stop (l : Launch) (dC : Nat → ClassId) (dI : Nat → Nat → Nat) (cI cS : ClassId) (a : Nat → Nat) (hD : xD 95 a) (h : hp)  {h9 : hp} (hf : f_X5_stop h  = some h9) : XMv l yX5_stop wsX5_stop rmX5_stop (dC, dI) vwCl (kty cI cS) 95 a (kcf cI cS a) h [.ref (a 0)] h9 := by
  refine xm_v (cc := cX5_stop) (maxL := 1) (ws' := wsX5_stop.tail) (by decide) rfl hD (Nat.le_of_ble_eq_true rfl) [(0, .ref (a 0))] rfl RX5 rfl ?_
  intro p e s m args below meth c C hlk hr
  have wl50 : Cond.fieldLink RX5 50 "RewindBox" "recording" "Z" ∈ wsX5_stop := by decide +kernel
  have wnX5 : ∀ w ∈ u_ws RX5 TX5 9, w ∈ wsX5_stop := by decide +kernel
  unfold f_X5_stop at hf
  refine xr_aload_n C dX5_stop_0 0 rfl rfl ?_
  refine xr_iconst C (v := 0) dX5_stop_1 (by decide +kernel) ?_
  refine xr_put C (ci := 5) (Cn := RX5) (T := TX5) (N := 9) (ty := .boolean) (v := 0) 0 (by decide) rfl rfl 5 (by decide) wnX5 wl50 rfl tyX5 tyX5_ok nmX5 rfl (by decide +kernel) (by decide +kernel) (by decide +kernel) (Nat.le_of_ble_eq_true rfl) rfl dX5_stop_2 ?_
  cases hf
  exact xr_vret C hlk hr dX5_stop_5
def f_X5_give (h : hp) (x1 : Int32) : Option (Int32 × hp) := if h 0 5 = 0 then (some ((-1), h)) else (if h 5 2 < 100 then (bV (f_X0_add h x1) (fun hh4 => some (hh4 5 2, hh4))) else (some ((-1), h)))
abbrev rmX5_give : Room := { frames := 1, cells := 0, slots := 0, locals := 21 }
set_option maxHeartbeats 4000000 in
set_option maxRecDepth 100000 in
theorem c_X5_give (l : Launch) (dC : Nat → ClassId) (dI : Nat → Nat → Nat) (cI cS : ClassId) (a : Nat → Nat) (hD : xD 95 a) (h : hp) (x1 : Int32) {r9 : Int32} {h9 : hp} (hf : f_X5_give h x1 = some (r9, h9)) : XMi l yX5_give wsX5_give rmX5_give (dC, dI) vwCl (kty cI cS) 95 a (kcf cI cS a) h [.ref (a 0), .int x1] r9 h9 := by
  refine xm_i (cc := cX5_give) (maxL := 2) (ws' := wsX5_give.tail) (by decide) rfl hD (Nat.le_of_ble_eq_true rfl) [(0, .ref (a 0)), (1, .int x1)] rfl RX5 rfl ?_
  intro p e s m args below meth c C hlk hr
  have wl50 : Cond.fieldLink RX5 50 "RewindBox" "recording" "Z" ∈ wsX5_give := by decide +kernel
  have wnX5 : ∀ w ∈ u_ws RX5 TX5 9, w ∈ wsX5_give := by decide +kernel
  have wl32 : Cond.fieldLink RX5 32 "RewindBox" "inputs" "LRewindBox$Inputs;" ∈ wsX5_give := by decide +kernel
  have wl84 : Cond.fieldLink RX5 84 "RewindBox$Inputs" "count" "I" ∈ wsX5_give := by decide +kernel
  have wnX0 : ∀ w ∈ u_ws RX0 TX0 3, w ∈ wsX5_give := by decide +kernel
  unfold f_X5_give at hf
  refine xr_aload_n C dX5_give_0 0 rfl rfl ?_
  refine xr_get C (ci := 5) (Cn := RX5) (T := TX5) (N := 9) (v := .int (h 0 5)) 0 (by decide) rfl rfl 5 (by decide) wnX5 wl50 rfl rfl dX5_give_1 ?_
  refine xr_if_eq C 19 dX5_give_4 (by decide) (fun cd1 => ?_) (fun cd1 => ?_)
  · rw [if_pos cd1] at hf
    refine xr_iconst C (v := (-1)) dX5_give_19 (by decide +kernel) ?_
    cases hf
    exact xr_iret C hlk hr dX5_give_20
  · rw [if_neg cd1] at hf
    refine xr_aload_n C dX5_give_7 0 rfl rfl ?_
    refine xr_get C (ci := 5) (Cn := RX5) (T := TX5) (N := 9) (v := .ref (a 5)) 0 (by decide) rfl rfl 2 (by decide) wnX5 wl32 rfl rfl dX5_give_8 ?_
    refine xr_get C (ci := 0) (Cn := RX0) (T := TX0) (N := 3) (v := .int (h 5 2)) 5 (by decide) rfl rfl 2 (by decide) wnX0 wl84 rfl rfl dX5_give_11 ?_
    refine xr_bipush C (v := 100) dX5_give_14 (by decide +kernel) ?_
    refine xr_icmp_lt C 21 dX5_give_16 (by decide) (fun cd2 => ?_) (fun cd2 => ?_)
    · rw [if_pos cd2] at hf
      refine xr_aload_n C dX5_give_21 0 rfl rfl ?_
      refine xr_get C (ci := 5) (Cn := RX5) (T := TX5) (N := 9) (v := .ref (a 5)) 0 (by decide) rfl rfl 2 (by decide) wnX5 wl32 rfl rfl dX5_give_22 ?_
      refine xr_iload_n C dX5_give_25 1 rfl rfl ?_
      obtain ⟨hh4, ee3, hf⟩ := bV_some hf
      refine xr_callVv C (Cn := RX0) 5 (by decide) rfl rfl [.int x1] [] (c_X0_add l dC dI cI cS a hD h x1 ee3) (cwV 1 C.2.2.1 gX5_give_X0_add rfl rfl rfl (by decide +kernel) ⟨Nat.le_of_ble_eq_true rfl, Nat.le_of_ble_eq_true rfl⟩) rfl rfl (Nat.le_of_ble_eq_true rfl) dX5_give_26 ?_
      refine xr_aload_n C dX5_give_29 0 rfl rfl ?_
      refine xr_get C (ci := 5) (Cn := RX5) (T := TX5) (N := 9) (v := .ref (a 5)) 0 (by decide) rfl rfl 2 (by decide) wnX5 wl32 rfl rfl dX5_give_30 ?_
      refine xr_get C (ci := 0) (Cn := RX0) (T := TX0) (N := 3) (v := .int (hh4 5 2)) 5 (by decide) rfl rfl 2 (by decide) wnX0 wl84 rfl rfl dX5_give_33 ?_
      cases hf
      exact xr_iret C hlk hr dX5_give_36
    · rw [if_neg cd2] at hf
      refine xr_iconst C (v := (-1)) dX5_give_19 (by decide +kernel) ?_
      cases hf
      exact xr_iret C hlk hr dX5_give_20
def f_X5_ring (h : hp)  : Option (Int32 × hp) := if h 0 5 = 0 then (some (0, h)) else (some (1, (u2 h 0 6 1)))
abbrev rmX5_ring : Room := { frames := 0, cells := 0, slots := 0, locals := 0 }
set_option maxHeartbeats 4000000 in
set_option maxRecDepth 100000 in
theorem c_X5_ring (l : Launch) (dC : Nat → ClassId) (dI : Nat → Nat → Nat) (cI cS : ClassId) (a : Nat → Nat) (hD : xD 95 a) (h : hp)  {r9 : Int32} {h9 : hp} (hf : f_X5_ring h  = some (r9, h9)) : XMi l yX5_ring wsX5_ring rmX5_ring (dC, dI) vwCl (kty cI cS) 95 a (kcf cI cS a) h [.ref (a 0)] r9 h9 := by
  refine xm_i (cc := cX5_ring) (maxL := 1) (ws' := wsX5_ring.tail) (by decide) rfl hD (Nat.le_of_ble_eq_true rfl) [(0, .ref (a 0))] rfl RX5 rfl ?_
  intro p e s m args below meth c C hlk hr
  have wl50 : Cond.fieldLink RX5 50 "RewindBox" "recording" "Z" ∈ wsX5_ring := by decide +kernel
  have wnX5 : ∀ w ∈ u_ws RX5 TX5 9, w ∈ wsX5_ring := by decide +kernel
  have wl75 : Cond.fieldLink RX5 75 "RewindBox" "ringCame" "Z" ∈ wsX5_ring := by decide +kernel
  unfold f_X5_ring at hf
  refine xr_aload_n C dX5_ring_0 0 rfl rfl ?_
  refine xr_get C (ci := 5) (Cn := RX5) (T := TX5) (N := 9) (v := .int (h 0 5)) 0 (by decide) rfl rfl 5 (by decide) wnX5 wl50 rfl rfl dX5_ring_1 ?_
  refine xr_if_ne C 9 dX5_ring_4 (by decide) (fun cd1 => ?_) (fun cd1 => ?_)
  · rw [if_neg cd1] at hf
    refine xr_aload_n C dX5_ring_9 0 rfl rfl ?_
    refine xr_iconst C (v := 1) dX5_ring_10 (by decide +kernel) ?_
    refine xr_put C (ci := 5) (Cn := RX5) (T := TX5) (N := 9) (ty := .boolean) (v := 1) 0 (by decide) rfl rfl 6 (by decide) wnX5 wl75 rfl tyX5 tyX5_ok nmX5 rfl (by decide +kernel) (by decide +kernel) (by decide +kernel) (Nat.le_of_ble_eq_true rfl) rfl dX5_ring_11 ?_
    refine xr_iconst C (v := 1) dX5_ring_14 (by decide +kernel) ?_
    cases hf
    exact xr_zret C hlk hr (by decide +kernel) dX5_ring_15
  · rw [if_pos cd1] at hf
    refine xr_iconst C (v := 0) dX5_ring_7 (by decide +kernel) ?_
    cases hf
    exact xr_zret C hlk hr (by decide +kernel) dX5_ring_8
def f_X5_isOnRecord (h0 : hp) (x1 : Int32) : Option Int32 := if h0 0 5 = 0 then (some 0) else (if x1 < 0 then (some 0) else (if h0 0 8 < x1 then (some 0) else (some 1)))
abbrev rmX5_isOnRecord : Room := { frames := 0, cells := 0, slots := 0, locals := 0 }
set_option maxHeartbeats 4000000 in
set_option maxRecDepth 100000 in
theorem c_X5_isOnRecord (l : Launch) (dC : Nat → ClassId) (dI : Nat → Nat → Nat) (cI cS : ClassId) (a : Nat → Nat) (hD : xD 95 a) (h0 : hp) (x1 : Int32) {r9 : Int32} (hf : f_X5_isOnRecord h0 x1 = some r9) : XMi l yX5_isOnRecord wsX5_isOnRecord rmX5_isOnRecord (dC, dI) vwCl (kty cI cS) 95 a (kcf cI cS a) h0 [.ref (a 0), .int x1] r9 h0 := by
  refine xm_i (cc := cX5_isOnRecord) (maxL := 2) (ws' := wsX5_isOnRecord.tail) (by decide) rfl hD (Nat.le_of_ble_eq_true rfl) [(0, .ref (a 0)), (1, .int x1)] rfl RX5 rfl ?_
  intro p e s m args below meth c C hlk hr
  have wl50 : Cond.fieldLink RX5 50 "RewindBox" "recording" "Z" ∈ wsX5_isOnRecord := by decide +kernel
  have wnX5 : ∀ w ∈ u_ws RX5 TX5 9, w ∈ wsX5_isOnRecord := by decide +kernel
  have wl81 : Cond.fieldLink RX5 81 "RewindBox" "end" "I" ∈ wsX5_isOnRecord := by decide +kernel
  unfold f_X5_isOnRecord at hf
  refine xr_aload_n C dX5_isOnRecord_0 0 rfl rfl ?_
  refine xr_get C (ci := 5) (Cn := RX5) (T := TX5) (N := 9) (v := .int (h0 0 5)) 0 (by decide) rfl rfl 5 (by decide) wnX5 wl50 rfl rfl dX5_isOnRecord_1 ?_
  refine xr_if_eq C 23 dX5_isOnRecord_4 (by decide) (fun cd1 => ?_) (fun cd1 => ?_)
  · rw [if_pos cd1] at hf
    refine xr_iconst C (v := 0) dX5_isOnRecord_23 (by decide +kernel) ?_
    cases hf
    exact xr_zret C hlk hr (by decide +kernel) dX5_isOnRecord_24
  · rw [if_neg cd1] at hf
    refine xr_iload_n C dX5_isOnRecord_7 1 rfl rfl ?_
    refine xr_if_lt C 23 dX5_isOnRecord_8 (by decide) (fun cd2 => ?_) (fun cd2 => ?_)
    · rw [if_pos cd2] at hf
      refine xr_iconst C (v := 0) dX5_isOnRecord_23 (by decide +kernel) ?_
      cases hf
      exact xr_zret C hlk hr (by decide +kernel) dX5_isOnRecord_24
    · rw [if_neg cd2] at hf
      refine xr_iload_n C dX5_isOnRecord_11 1 rfl rfl ?_
      refine xr_aload_n C dX5_isOnRecord_12 0 rfl rfl ?_
      refine xr_get C (ci := 5) (Cn := RX5) (T := TX5) (N := 9) (v := .int (h0 0 8)) 0 (by decide) rfl rfl 8 (by decide) wnX5 wl81 rfl rfl dX5_isOnRecord_13 ?_
      refine xr_icmp_gt C 23 dX5_isOnRecord_16 (by decide) (fun cd3 => ?_) (fun cd3 => ?_)
      · rw [if_pos cd3] at hf
        refine xr_iconst C (v := 0) dX5_isOnRecord_23 (by decide +kernel) ?_
        cases hf
        exact xr_zret C hlk hr (by decide +kernel) dX5_isOnRecord_24
      · rw [if_neg cd3] at hf
        refine xr_iconst C (v := 1) dX5_isOnRecord_19 (by decide +kernel) ?_
        refine xr_goto C 24 dX5_isOnRecord_20 (by decide) ?_
        cases hf
        exact xr_zret C hlk hr (by decide +kernel) dX5_isOnRecord_24
def f_X5_nextLiveKind_19 (h0 : hp)  : Option Int32 := bR (f_X2_nextOp h0) (fun rr3 => if rr3 = 0 then (some (-1)) else (if rr3 = 12 then (if h0 5 2 ≤ 0 then (some (-1)) else (some 1)) else (some 0)))
def f_X5_nextLiveKind (h0 : hp)  : Option Int32 := if h0 0 6 = 0 then (f_X5_nextLiveKind_19 h0 ) else (if h0 1 5 = 0 then (f_X5_nextLiveKind_19 h0 ) else (some 2))
abbrev rmX5_nextLiveKind : Room := { frames := 1, cells := 0, slots := 0, locals := 20 }
set_option maxHeartbeats 4000000 in
set_option maxRecDepth 100000 in
theorem c_X5_nextLiveKind (l : Launch) (dC : Nat → ClassId) (dI : Nat → Nat → Nat) (cI cS : ClassId) (a : Nat → Nat) (hD : xD 95 a) (h0 : hp)  {r9 : Int32} (hf : f_X5_nextLiveKind h0  = some r9) : XMi l yX5_nextLiveKind wsX5_nextLiveKind rmX5_nextLiveKind (dC, dI) vwCl (kty cI cS) 95 a (kcf cI cS a) h0 [.ref (a 0)] r9 h0 := by
  refine xm_i (cc := cX5_nextLiveKind) (maxL := 2) (ws' := wsX5_nextLiveKind.tail) (by decide) rfl hD (Nat.le_of_ble_eq_true rfl) [(0, .ref (a 0))] rfl RX5 rfl ?_
  intro p e s m args below meth c C hlk hr
  have wl75 : Cond.fieldLink RX5 75 "RewindBox" "ringCame" "Z" ∈ wsX5_nextLiveKind := by decide +kernel
  have wnX5 : ∀ w ∈ u_ws RX5 TX5 9, w ∈ wsX5_nextLiveKind := by decide +kernel
  have wl25 : Cond.fieldLink RX5 25 "RewindBox" "machine" "LRewindBox$Machine;" ∈ wsX5_nextLiveKind := by decide +kernel
  have wl32 : Cond.fieldLink RX5 32 "RewindBox" "inputs" "LRewindBox$Inputs;" ∈ wsX5_nextLiveKind := by decide +kernel
  have wl84 : Cond.fieldLink RX5 84 "RewindBox$Inputs" "count" "I" ∈ wsX5_nextLiveKind := by decide +kernel
  have wnX0 : ∀ w ∈ u_ws RX0 TX0 3, w ∈ wsX5_nextLiveKind := by decide +kernel
  have wl142 : Cond.fieldLink RX5 142 "RewindBox$Machine" "open" "Z" ∈ wsX5_nextLiveKind := by decide +kernel
  have wnX2 : ∀ w ∈ u_ws RX2 TX2 8, w ∈ wsX5_nextLiveKind := by decide +kernel
  have lab19 : f_X5_nextLiveKind_19 h0  = some r9 → XJ p l e rmX5_nextLiveKind s m args below meth c (dC, dI) vwCl 95 a (kcf cI cS a) 2 (MQ below (XQi (dC, dI) vwCl 95 a (kcf cI cS a) r9 h0) args s 0 0 (xA 95 a)) h0 [(0, .ref (a 0))] [] 19 := by
    intro   hf
    unfold f_X5_nextLiveKind_19 at hf
    refine xr_aload_n C dX5_nextLiveKind_19 0 rfl rfl ?_
    refine xr_get C (ci := 5) (Cn := RX5) (T := TX5) (N := 9) (v := .ref (a 1)) 0 (by decide) rfl rfl 1 (by decide) wnX5 wl25 rfl rfl dX5_nextLiveKind_20 ?_
    obtain ⟨rr3, ee2, hf⟩ := bR_some hf
    refine xr_callVi C (Cn := RX2) 1 (by decide) rfl rfl [] [] (c_X2_nextOp l dC dI cI cS a hD h0 ee2) (cwV 0 C.2.2.1 gX5_nextLiveKind_X2_nextOp rfl rfl rfl (by decide +kernel) ⟨Nat.le_of_ble_eq_true rfl, Nat.le_of_ble_eq_true rfl⟩) rfl rfl (Nat.le_of_ble_eq_true rfl) dX5_nextLiveKind_23 ?_
    refine xr_istore_n C [(1, .int rr3), (0, .ref (a 0))] dX5_nextLiveKind_26 rfl (by decide) rfl ?_
    refine xr_iload_n C dX5_nextLiveKind_27 0 rfl rfl ?_
    refine xr_if_ne C 33 dX5_nextLiveKind_28 (by decide) (fun cd4 => ?_) (fun cd4 => ?_)
    · rw [if_neg cd4] at hf
      refine xr_iload_n C dX5_nextLiveKind_33 0 rfl rfl ?_
      refine xr_bipush C (v := 12) dX5_nextLiveKind_34 (by decide +kernel) ?_
      refine xr_icmp_eq C 41 dX5_nextLiveKind_36 (by decide) (fun cd5 => ?_) (fun cd5 => ?_)
      · rw [if_pos cd5] at hf
        refine xr_aload_n C dX5_nextLiveKind_41 1 rfl rfl ?_
        refine xr_get C (ci := 5) (Cn := RX5) (T := TX5) (N := 9) (v := .ref (a 5)) 0 (by decide) rfl rfl 2 (by decide) wnX5 wl32 rfl rfl dX5_nextLiveKind_42 ?_
        refine xr_get C (ci := 0) (Cn := RX0) (T := TX0) (N := 3) (v := .int (h0 5 2)) 5 (by decide) rfl rfl 2 (by decide) wnX0 wl84 rfl rfl dX5_nextLiveKind_45 ?_
        refine xr_if_le C 55 dX5_nextLiveKind_48 (by decide) (fun cd6 => ?_) (fun cd6 => ?_)
        · rw [if_pos cd6] at hf
          refine xr_iconst C (v := (-1)) dX5_nextLiveKind_55 (by decide +kernel) ?_
          cases hf
          exact xr_iret C hlk hr dX5_nextLiveKind_56
        · rw [if_neg cd6] at hf
          refine xr_iconst C (v := 1) dX5_nextLiveKind_51 (by decide +kernel) ?_
          refine xr_goto C 56 dX5_nextLiveKind_52 (by decide) ?_
          cases hf
          exact xr_iret C hlk hr dX5_nextLiveKind_56
      · rw [if_neg cd5] at hf
        refine xr_iconst C (v := 0) dX5_nextLiveKind_39 (by decide +kernel) ?_
        cases hf
        exact xr_iret C hlk hr dX5_nextLiveKind_40
    · rw [if_pos cd4] at hf
      refine xr_iconst C (v := (-1)) dX5_nextLiveKind_31 (by decide +kernel) ?_
      cases hf
      exact xr_iret C hlk hr dX5_nextLiveKind_32
  unfold f_X5_nextLiveKind at hf
  refine xr_aload_n C dX5_nextLiveKind_0 0 rfl rfl ?_
  refine xr_get C (ci := 5) (Cn := RX5) (T := TX5) (N := 9) (v := .int (h0 0 6)) 0 (by decide) rfl rfl 6 (by decide) wnX5 wl75 rfl rfl dX5_nextLiveKind_1 ?_
  refine xr_if_eq C 19 dX5_nextLiveKind_4 (by decide) (fun cd1 => ?_) (fun cd1 => ?_)
  · rw [if_pos cd1] at hf
    exact xr_sub C [0] rfl (lab19    hf)
  · rw [if_neg cd1] at hf
    refine xr_aload_n C dX5_nextLiveKind_7 0 rfl rfl ?_
    refine xr_get C (ci := 5) (Cn := RX5) (T := TX5) (N := 9) (v := .ref (a 1)) 0 (by decide) rfl rfl 1 (by decide) wnX5 wl25 rfl rfl dX5_nextLiveKind_8 ?_
    refine xr_get C (ci := 2) (Cn := RX2) (T := TX2) (N := 8) (v := .int (h0 1 5)) 1 (by decide) rfl rfl 5 (by decide) wnX2 wl142 rfl rfl dX5_nextLiveKind_11 ?_
    refine xr_if_eq C 19 dX5_nextLiveKind_14 (by decide) (fun cd7 => ?_) (fun cd7 => ?_)
    · rw [if_pos cd7] at hf
      exact xr_sub C [0] rfl (lab19    hf)
    · rw [if_neg cd7] at hf
      refine xr_iconst C (v := 2) dX5_nextLiveKind_17 (by decide +kernel) ?_
      cases hf
      exact xr_iret C hlk hr dX5_nextLiveKind_18
def f_X5_isFull_58 (h0 : hp) (x2 : Int32) : Option Int32 := bR (f_X4_hasRoomFor h0 x2) (fun rr8 => if rr8 = 0 then (some 1) else (some 0))
def f_X5_isFull_19 (h0 : hp) (x1 : Int32) : Option Int32 := gd (¬ (h0 0 0) = 0) (if (((h0 0 8) + 1) - ((h0 0 8) + 1) / (h0 0 0) * (h0 0 0)) = 0 then (if x1 = 2 then (gl (h0 1 7) (fun v10 => f_X5_isFull_58 h0 v10)) else (bR (f_X2_writtenWithNext h0) (fun rr6 => f_X5_isFull_58 h0 rr6))) else (some 0))
def f_X5_isFull (h0 : hp) (x1 : Int32) : Option Int32 := if x1 = 0 then (f_X5_isFull_19 h0 x1) else (if h0 7 3 < 300 then (f_X5_isFull_19 h0 x1) else (some 1))
abbrev rmX5_isFull : Room := { frames := 3, cells := 0, slots := 0, locals := 61 }
set_option maxHeartbeats 4000000 in
set_option maxRecDepth 100000 in
theorem c_X5_isFull (l : Launch) (dC : Nat → ClassId) (dI : Nat → Nat → Nat) (cI cS : ClassId) (a : Nat → Nat) (hD : xD 95 a) (h0 : hp) (x1 : Int32) {r9 : Int32} (hf : f_X5_isFull h0 x1 = some r9) : XMi l yX5_isFull wsX5_isFull rmX5_isFull (dC, dI) vwCl (kty cI cS) 95 a (kcf cI cS a) h0 [.ref (a 0), .int x1] r9 h0 := by
  refine xm_i (cc := cX5_isFull) (maxL := 3) (ws' := wsX5_isFull.tail) (by decide) rfl hD (Nat.le_of_ble_eq_true rfl) [(0, .ref (a 0)), (1, .int x1)] rfl RX5 rfl ?_
  intro p e s m args below meth c C hlk hr
  have wl81 : Cond.fieldLink RX5 81 "RewindBox" "end" "I" ∈ wsX5_isFull := by decide +kernel
  have wnX5 : ∀ w ∈ u_ws RX5 TX5 9, w ∈ wsX5_isFull := by decide +kernel
  have wl18 : Cond.fieldLink RX5 18 "RewindBox" "interval" "I" ∈ wsX5_isFull := by decide +kernel
  have wl25 : Cond.fieldLink RX5 25 "RewindBox" "machine" "LRewindBox$Machine;" ∈ wsX5_isFull := by decide +kernel
  have wl46 : Cond.fieldLink RX5 46 "RewindBox" "snapshots" "LRewindBox$Snapshots;" ∈ wsX5_isFull := by decide +kernel
  have wl163 : Cond.fieldLink RX5 163 "RewindBox$Machine" "written" "I" ∈ wsX5_isFull := by decide +kernel
  have wnX2 : ∀ w ∈ u_ws RX2 TX2 8, w ∈ wsX5_isFull := by decide +kernel
  have wl39 : Cond.fieldLink RX5 39 "RewindBox" "entries" "LRewindBox$Log;" ∈ wsX5_isFull := by decide +kernel
  have wl68 : Cond.fieldLink RX5 68 "RewindBox$Log" "count" "I" ∈ wsX5_isFull := by decide +kernel
  have wnX1 : ∀ w ∈ u_ws RX1 TX1 4, w ∈ wsX5_isFull := by decide +kernel
  have lab58 : ∀ (x2 : Int32) , f_X5_isFull_58 h0 x2 = some r9 → XJ p l e rmX5_isFull s m args below meth c (dC, dI) vwCl 95 a (kcf cI cS a) 3 (MQ below (XQi (dC, dI) vwCl 95 a (kcf cI cS a) r9 h0) args s 0 0 (xA 95 a)) h0 [(0, .ref (a 0)), (2, .int x2)] [] 58 := by
    intro x2  hf
    unfold f_X5_isFull_58 at hf
    refine xr_aload_n C dX5_isFull_58 0 rfl rfl ?_
    refine xr_get C (ci := 5) (Cn := RX5) (T := TX5) (N := 9) (v := .ref (a 11)) 0 (by decide) rfl rfl 4 (by decide) wnX5 wl46 rfl rfl dX5_isFull_59 ?_
    refine xr_iload_n C dX5_isFull_62 1 rfl rfl ?_
    obtain ⟨rr8, ee7, hf⟩ := bR_some hf
    refine xr_callVi C (Cn := RX4) 11 (by decide) rfl rfl [.int x2] [] (c_X4_hasRoomFor l dC dI cI cS a hD h0 x2 ee7) (cwV 1 C.2.2.1 gX5_isFull_X4_hasRoomFor rfl rfl rfl (by decide +kernel) ⟨Nat.le_of_ble_eq_true rfl, Nat.le_of_ble_eq_true rfl⟩) rfl rfl (Nat.le_of_ble_eq_true rfl) dX5_isFull_63 ?_
    refine xr_if_ne C 73 dX5_isFull_66 (by decide) (fun cd9 => ?_) (fun cd9 => ?_)
    · rw [if_neg cd9] at hf
      refine xr_iconst C (v := 0) dX5_isFull_73 (by decide +kernel) ?_
      cases hf
      exact xr_zret C hlk hr (by decide +kernel) dX5_isFull_74
    · rw [if_pos cd9] at hf
      refine xr_iconst C (v := 1) dX5_isFull_69 (by decide +kernel) ?_
      refine xr_goto C 74 dX5_isFull_70 (by decide) ?_
      cases hf
      exact xr_zret C hlk hr (by decide +kernel) dX5_isFull_74
  have lab19 : ∀ (x1 : Int32) , f_X5_isFull_19 h0 x1 = some r9 → XJ p l e rmX5_isFull s m args below meth c (dC, dI) vwCl 95 a (kcf cI cS a) 3 (MQ below (XQi (dC, dI) vwCl 95 a (kcf cI cS a) r9 h0) args s 0 0 (xA 95 a)) h0 [(0, .ref (a 0)), (1, .int x1)] [] 19 := by
    intro x1  hf
    unfold f_X5_isFull_19 at hf
    refine xr_aload_n C dX5_isFull_19 0 rfl rfl ?_
    refine xr_get C (ci := 5) (Cn := RX5) (T := TX5) (N := 9) (v := .int (h0 0 8)) 0 (by decide) rfl rfl 8 (by decide) wnX5 wl81 rfl rfl dX5_isFull_20 ?_
    refine xr_iconst C (v := 1) dX5_isFull_23 (by decide +kernel) ?_
    refine xr_iadd C dX5_isFull_24 ?_
    refine xr_aload_n C dX5_isFull_25 0 rfl rfl ?_
    refine xr_get C (ci := 5) (Cn := RX5) (T := TX5) (N := 9) (v := .int (h0 0 0)) 0 (by decide) rfl rfl 0 (by decide) wnX5 wl18 rfl rfl dX5_isFull_26 ?_
    obtain ⟨gg2, hf⟩ := gd_some hf
    refine xr_irem C dX5_isFull_29 gg2 ?_
    refine xr_if_eq C 35 dX5_isFull_30 (by decide) (fun cd3 => ?_) (fun cd3 => ?_)
    · rw [if_pos cd3] at hf
      refine xr_iload_n C dX5_isFull_35 1 rfl rfl ?_
      refine xr_iconst C (v := 2) dX5_isFull_36 (by decide +kernel) ?_
      refine xr_icmp_ne C 50 dX5_isFull_37 (by decide) (fun cd4 => ?_) (fun cd4 => ?_)
      · rw [if_neg cd4] at hf
        refine xr_aload_n C dX5_isFull_50 0 rfl rfl ?_
        refine xr_get C (ci := 5) (Cn := RX5) (T := TX5) (N := 9) (v := .ref (a 1)) 0 (by decide) rfl rfl 1 (by decide) wnX5 wl25 rfl rfl dX5_isFull_51 ?_
        obtain ⟨rr6, ee5, hf⟩ := bR_some hf
        refine xr_callVi C (Cn := RX2) 1 (by decide) rfl rfl [] [] (c_X2_writtenWithNext l dC dI cI cS a hD h0 ee5) (cwV 0 C.2.2.1 gX5_isFull_X2_writtenWithNext rfl rfl rfl (by decide +kernel) ⟨Nat.le_of_ble_eq_true rfl, Nat.le_of_ble_eq_true rfl⟩) rfl rfl (Nat.le_of_ble_eq_true rfl) dX5_isFull_54 ?_
        refine xr_istore_n C [(2, .int rr6), (0, .ref (a 0)), (1, .int x1)] dX5_isFull_57 rfl (by decide) rfl ?_
        exact xr_sub C [1, 0] rfl (lab58  rr6  hf)
      · rw [if_pos cd4] at hf
        refine xr_aload_n C dX5_isFull_40 0 rfl rfl ?_
        refine xr_get C (ci := 5) (Cn := RX5) (T := TX5) (N := 9) (v := .ref (a 1)) 0 (by decide) rfl rfl 1 (by decide) wnX5 wl25 rfl rfl dX5_isFull_41 ?_
        refine xr_get C (ci := 2) (Cn := RX2) (T := TX2) (N := 8) (v := .int (h0 1 7)) 1 (by decide) rfl rfl 7 (by decide) wnX2 wl163 rfl rfl dX5_isFull_44 ?_
        refine xr_goto C 57 dX5_isFull_47 (by decide) ?_
        refine xr_topi C (fun v10 ev10 => ?_)
        have hf := gl_at hf v10 ev10
        refine xr_istore_n C [(2, .int v10), (0, .ref (a 0)), (1, .int x1)] dX5_isFull_57 rfl (by decide) rfl ?_
        exact xr_sub C [1, 0] rfl (lab58  v10  hf)
    · rw [if_neg cd3] at hf
      refine xr_iconst C (v := 0) dX5_isFull_33 (by decide +kernel) ?_
      cases hf
      exact xr_zret C hlk hr (by decide +kernel) dX5_isFull_34
  unfold f_X5_isFull at hf
  refine xr_iload_n C dX5_isFull_0 1 rfl rfl ?_
  refine xr_if_eq C 19 dX5_isFull_1 (by decide) (fun cd1 => ?_) (fun cd1 => ?_)
  · rw [if_pos cd1] at hf
    exact xr_sub C [0, 1] rfl (lab19  x1  hf)
  · rw [if_neg cd1] at hf
    refine xr_aload_n C dX5_isFull_4 0 rfl rfl ?_
    refine xr_get C (ci := 5) (Cn := RX5) (T := TX5) (N := 9) (v := .ref (a 7)) 0 (by decide) rfl rfl 3 (by decide) wnX5 wl39 rfl rfl dX5_isFull_5 ?_
    refine xr_get C (ci := 1) (Cn := RX1) (T := TX1) (N := 4) (v := .int (h0 7 3)) 7 (by decide) rfl rfl 3 (by decide) wnX1 wl68 rfl rfl dX5_isFull_8 ?_
    refine xr_sipush C (v := 300) dX5_isFull_11 (by decide +kernel) ?_
    refine xr_icmp_lt C 19 dX5_isFull_14 (by decide) (fun cd11 => ?_) (fun cd11 => ?_)
    · rw [if_pos cd11] at hf
      exact xr_sub C [0, 1] rfl (lab19  x1  hf)
    · rw [if_neg cd11] at hf
      refine xr_iconst C (v := 1) dX5_isFull_17 (by decide +kernel) ?_
      cases hf
      exact xr_zret C hlk hr (by decide +kernel) dX5_isFull_18
end
section
def f_X5_advance_27 (h : hp)  : Option hp := if ((h 0 7) + 1) ≤ h 0 8 then (gd (¬ (h 0 0) = 0) (if (((h 0 7) + 1) - ((h 0 7) + 1) / (h 0 0) * (h 0 0)) = 0 then (some (u2 (u2 h 0 7 ((h 0 7) + 1)) 1 7 0)) else (some (u2 h 0 7 ((h 0 7) + 1))))) else (gd (¬ (h 0 0) = 0) (if (((h 0 7) + 1) - ((h 0 7) + 1) / (h 0 0) * (h 0 0)) = 0 then (bV (f_X4_add (u2 (u2 h 0 7 ((h 0 7) + 1)) 0 8 ((h 0 7) + 1))) (fun hh10 => some (u2 hh10 1 7 0))) else (some (u2 (u2 h 0 7 ((h 0 7) + 1)) 0 8 ((h 0 7) + 1)))))
def f_X5_advance (h : hp) (x1 : Int32) (x2 : Int32) : Option hp := if x1 = 2 then (bV (f_X2_takeRing h) (fun hh12 => f_X5_advance_27 hh12 )) else (bV (f_X2_perform h (h 0 7) x2) (fun hh3 => f_X5_advance_27 hh3 ))
abbrev rmX5_advance : Room := { frames := 3, cells := 0, slots := 0, locals := 68 }
set_option maxHeartbeats 4000000 in
set_option maxRecDepth 100000 in
theorem c_X5_advance (l : Launch) (dC : Nat → ClassId) (dI : Nat → Nat → Nat) (cI cS : ClassId) (a : Nat → Nat) (hD : xD 95 a) (h : hp) (x1 : Int32) (x2 : Int32) {h9 : hp} (hf : f_X5_advance h x1 x2 = some h9) : XMv l yX5_advance wsX5_advance rmX5_advance (dC, dI) vwCl (kty cI cS) 95 a (kcf cI cS a) h [.ref (a 0), .int x1, .int x2] h9 := by
  refine xm_v (cc := cX5_advance) (maxL := 4) (ws' := wsX5_advance.tail) (by decide) rfl hD (Nat.le_of_ble_eq_true rfl) [(0, .ref (a 0)), (1, .int x1), (2, .int x2)] rfl RX5 rfl ?_
  intro p e s m args below meth c C hlk hr
  have wl25 : Cond.fieldLink RX5 25 "RewindBox" "machine" "LRewindBox$Machine;" ∈ wsX5_advance := by decide +kernel
  have wnX5 : ∀ w ∈ u_ws RX5 TX5 9, w ∈ wsX5_advance := by decide +kernel
  have wl78 : Cond.fieldLink RX5 78 "RewindBox" "now" "I" ∈ wsX5_advance := by decide +kernel
  have wl81 : Cond.fieldLink RX5 81 "RewindBox" "end" "I" ∈ wsX5_advance := by decide +kernel
  have wl18 : Cond.fieldLink RX5 18 "RewindBox" "interval" "I" ∈ wsX5_advance := by decide +kernel
  have wl163 : Cond.fieldLink RX5 163 "RewindBox$Machine" "written" "I" ∈ wsX5_advance := by decide +kernel
  have wnX2 : ∀ w ∈ u_ws RX2 TX2 8, w ∈ wsX5_advance := by decide +kernel
  have wl46 : Cond.fieldLink RX5 46 "RewindBox" "snapshots" "LRewindBox$Snapshots;" ∈ wsX5_advance := by decide +kernel
  have lab27 : ∀ (h : hp)  , f_X5_advance_27 h  = some h9 → XJ p l e rmX5_advance s m args below meth c (dC, dI) vwCl 95 a (kcf cI cS a) 4 (MQ below (XQv (dC, dI) vwCl 95 a (kcf cI cS a) h9) args s 0 0 (xA 95 a)) h [(0, .ref (a 0))] [] 27 := by
    intro h   hf
    unfold f_X5_advance_27 at hf
    refine xr_aload_n C dX5_advance_27 0 rfl rfl ?_
    refine xr_dup C dX5_advance_28 rfl ?_
    refine xr_get C (ci := 5) (Cn := RX5) (T := TX5) (N := 9) (v := .int (h 0 7)) 0 (by decide) rfl rfl 7 (by decide) wnX5 wl78 rfl rfl dX5_advance_29 ?_
    refine xr_iconst C (v := 1) dX5_advance_32 (by decide +kernel) ?_
    refine xr_iadd C dX5_advance_33 ?_
    refine xr_put C (ci := 5) (Cn := RX5) (T := TX5) (N := 9) (ty := .int) (v := ((h 0 7) + 1)) 0 (by decide) rfl rfl 7 (by decide) wnX5 wl78 rfl tyX5 tyX5_ok nmX5 rfl (by decide +kernel) rfl rfl (Nat.le_of_ble_eq_true rfl) rfl dX5_advance_34 ?_
    refine xr_aload_n C dX5_advance_37 0 rfl rfl ?_
    refine xr_get C (ci := 5) (Cn := RX5) (T := TX5) (N := 9) (v := .int ((h 0 7) + 1)) 0 (by decide) rfl rfl 7 (by decide) wnX5 wl78 rfl rfl dX5_advance_38 ?_
    refine xr_aload_n C dX5_advance_41 0 rfl rfl ?_
    refine xr_get C (ci := 5) (Cn := RX5) (T := TX5) (N := 9) (v := .int (h 0 8)) 0 (by decide) rfl rfl 8 (by decide) wnX5 wl81 rfl rfl dX5_advance_42 ?_
    refine xr_icmp_le C 52 dX5_advance_45 (by decide) (fun cd4 => ?_) (fun cd4 => ?_)
    · rw [if_pos cd4] at hf
      refine xr_iconst C (v := 0) dX5_advance_52 (by decide +kernel) ?_
      refine xr_istore_n C [(3, .int 0), (0, .ref (a 0))] dX5_advance_53 rfl (by decide) rfl ?_
      refine xr_iload_n C dX5_advance_54 0 rfl rfl ?_
      refine xr_if_eq C 66 dX5_advance_55 (by decide) (fun c9 => ?_) (fun c9 => absurd c9 (by decide))
      refine xr_aload_n C dX5_advance_66 1 rfl rfl ?_
      refine xr_get C (ci := 5) (Cn := RX5) (T := TX5) (N := 9) (v := .int ((h 0 7) + 1)) 0 (by decide) rfl rfl 7 (by decide) wnX5 wl78 rfl rfl dX5_advance_67 ?_
      refine xr_aload_n C dX5_advance_70 1 rfl rfl ?_
      refine xr_get C (ci := 5) (Cn := RX5) (T := TX5) (N := 9) (v := .int (h 0 0)) 0 (by decide) rfl rfl 0 (by decide) wnX5 wl18 rfl rfl dX5_advance_71 ?_
      obtain ⟨gg5, hf⟩ := gd_some hf
      refine xr_irem C dX5_advance_74 gg5 ?_
      refine xr_if_ne C 101 dX5_advance_75 (by decide) (fun cd6 => ?_) (fun cd6 => ?_)
      · rw [if_neg cd6] at hf
        cases hf
        exact xr_vret C hlk hr dX5_advance_101
      · rw [if_pos cd6] at hf
        refine xr_iload_n C dX5_advance_78 0 rfl rfl ?_
        refine xr_if_eq C 93 dX5_advance_79 (by decide) (fun c9 => ?_) (fun c9 => absurd c9 (by decide))
        refine xr_aload_n C dX5_advance_93 1 rfl rfl ?_
        refine xr_get C (ci := 5) (Cn := RX5) (T := TX5) (N := 9) (v := .ref (a 1)) 0 (by decide) rfl rfl 1 (by decide) wnX5 wl25 rfl rfl dX5_advance_94 ?_
        refine xr_iconst C (v := 0) dX5_advance_97 (by decide +kernel) ?_
        refine xr_put C (ci := 2) (Cn := RX2) (T := TX2) (N := 8) (ty := .int) (v := 0) 1 (by decide) rfl rfl 7 (by decide) wnX2 wl163 rfl tyX2 tyX2_ok nmX2 rfl (by decide +kernel) rfl rfl (Nat.le_of_ble_eq_true rfl) rfl dX5_advance_98 ?_
        cases hf
        exact xr_vret C hlk hr dX5_advance_101
    · rw [if_neg cd4] at hf
      refine xr_iconst C (v := 1) dX5_advance_48 (by decide +kernel) ?_
      refine xr_goto C 53 dX5_advance_49 (by decide) ?_
      refine xr_istore_n C [(3, .int 1), (0, .ref (a 0))] dX5_advance_53 rfl (by decide) rfl ?_
      refine xr_iload_n C dX5_advance_54 0 rfl rfl ?_
      refine xr_if_eq C 66 dX5_advance_55 (by decide) (fun c9 => absurd c9 (by decide)) (fun c9 => ?_)
      refine xr_aload_n C dX5_advance_58 1 rfl rfl ?_
      refine xr_aload_n C dX5_advance_59 1 rfl rfl ?_
      refine xr_get C (ci := 5) (Cn := RX5) (T := TX5) (N := 9) (v := .int ((h 0 7) + 1)) 0 (by decide) rfl rfl 7 (by decide) wnX5 wl78 rfl rfl dX5_advance_60 ?_
      refine xr_put C (ci := 5) (Cn := RX5) (T := TX5) (N := 9) (ty := .int) (v := ((h 0 7) + 1)) 0 (by decide) rfl rfl 8 (by decide) wnX5 wl81 rfl tyX5 tyX5_ok nmX5 rfl (by decide +kernel) rfl rfl (Nat.le_of_ble_eq_true rfl) rfl dX5_advance_63 ?_
      refine xr_aload_n C dX5_advance_66 1 rfl rfl ?_
      refine xr_get C (ci := 5) (Cn := RX5) (T := TX5) (N := 9) (v := .int ((h 0 7) + 1)) 0 (by decide) rfl rfl 7 (by decide) wnX5 wl78 rfl rfl dX5_advance_67 ?_
      refine xr_aload_n C dX5_advance_70 1 rfl rfl ?_
      refine xr_get C (ci := 5) (Cn := RX5) (T := TX5) (N := 9) (v := .int (h 0 0)) 0 (by decide) rfl rfl 0 (by decide) wnX5 wl18 rfl rfl dX5_advance_71 ?_
      obtain ⟨gg7, hf⟩ := gd_some hf
      refine xr_irem C dX5_advance_74 gg7 ?_
      refine xr_if_ne C 101 dX5_advance_75 (by decide) (fun cd8 => ?_) (fun cd8 => ?_)
      · rw [if_neg cd8] at hf
        cases hf
        exact xr_vret C hlk hr dX5_advance_101
      · rw [if_pos cd8] at hf
        refine xr_iload_n C dX5_advance_78 0 rfl rfl ?_
        refine xr_if_eq C 93 dX5_advance_79 (by decide) (fun c9 => absurd c9 (by decide)) (fun c9 => ?_)
        refine xr_aload_n C dX5_advance_82 1 rfl rfl ?_
        refine xr_get C (ci := 5) (Cn := RX5) (T := TX5) (N := 9) (v := .ref (a 11)) 0 (by decide) rfl rfl 4 (by decide) wnX5 wl46 rfl rfl dX5_advance_83 ?_
        refine xr_aload_n C dX5_advance_86 1 rfl rfl ?_
        refine xr_get C (ci := 5) (Cn := RX5) (T := TX5) (N := 9) (v := .ref (a 1)) 0 (by decide) rfl rfl 1 (by decide) wnX5 wl25 rfl rfl dX5_advance_87 ?_
        obtain ⟨hh10, ee9, hf⟩ := bV_some hf
        refine xr_callVv C (Cn := RX4) 11 (by decide) rfl rfl [.ref (a 1)] [] (c_X4_add l dC dI cI cS a hD (u2 (u2 h 0 7 ((h 0 7) + 1)) 0 8 ((h 0 7) + 1)) ee9) (cwV 1 C.2.2.1 gX5_advance_X4_add rfl rfl rfl (by decide +kernel) ⟨Nat.le_of_ble_eq_true rfl, Nat.le_of_ble_eq_true rfl⟩) rfl rfl (Nat.le_of_ble_eq_true rfl) dX5_advance_90 ?_
        refine xr_aload_n C dX5_advance_93 1 rfl rfl ?_
        refine xr_get C (ci := 5) (Cn := RX5) (T := TX5) (N := 9) (v := .ref (a 1)) 0 (by decide) rfl rfl 1 (by decide) wnX5 wl25 rfl rfl dX5_advance_94 ?_
        refine xr_iconst C (v := 0) dX5_advance_97 (by decide +kernel) ?_
        refine xr_put C (ci := 2) (Cn := RX2) (T := TX2) (N := 8) (ty := .int) (v := 0) 1 (by decide) rfl rfl 7 (by decide) wnX2 wl163 rfl tyX2 tyX2_ok nmX2 rfl (by decide +kernel) rfl rfl (Nat.le_of_ble_eq_true rfl) rfl dX5_advance_98 ?_
        cases hf
        exact xr_vret C hlk hr dX5_advance_101
  unfold f_X5_advance at hf
  refine xr_iload_n C dX5_advance_0 1 rfl rfl ?_
  refine xr_iconst C (v := 2) dX5_advance_1 (by decide +kernel) ?_
  refine xr_icmp_ne C 15 dX5_advance_2 (by decide) (fun cd1 => ?_) (fun cd1 => ?_)
  · rw [if_neg cd1] at hf
    refine xr_aload_n C dX5_advance_15 0 rfl rfl ?_
    refine xr_get C (ci := 5) (Cn := RX5) (T := TX5) (N := 9) (v := .ref (a 1)) 0 (by decide) rfl rfl 1 (by decide) wnX5 wl25 rfl rfl dX5_advance_16 ?_
    refine xr_aload_n C dX5_advance_19 0 rfl rfl ?_
    refine xr_get C (ci := 5) (Cn := RX5) (T := TX5) (N := 9) (v := .int (h 0 7)) 0 (by decide) rfl rfl 7 (by decide) wnX5 wl78 rfl rfl dX5_advance_20 ?_
    refine xr_iload_n C dX5_advance_23 2 rfl rfl ?_
    obtain ⟨hh3, ee2, hf⟩ := bV_some hf
    refine xr_callVv C (Cn := RX2) 1 (by decide) rfl rfl [.int (h 0 7), .int x2] [] (c_X2_perform l dC dI cI cS a hD h (h 0 7) x2 ee2) (cwV 2 C.2.2.1 gX5_advance_X2_perform rfl rfl rfl (by decide +kernel) ⟨Nat.le_of_ble_eq_true rfl, Nat.le_of_ble_eq_true rfl⟩) rfl rfl (Nat.le_of_ble_eq_true rfl) dX5_advance_24 ?_
    exact xr_sub C [0] rfl (lab27 hh3   hf)
  · rw [if_pos cd1] at hf
    refine xr_aload_n C dX5_advance_5 0 rfl rfl ?_
    refine xr_get C (ci := 5) (Cn := RX5) (T := TX5) (N := 9) (v := .ref (a 1)) 0 (by decide) rfl rfl 1 (by decide) wnX5 wl25 rfl rfl dX5_advance_6 ?_
    obtain ⟨hh12, ee11, hf⟩ := bV_some hf
    refine xr_callVv C (Cn := RX2) 1 (by decide) rfl rfl [] [] (c_X2_takeRing l dC dI cI cS a hD h ee11) (cwV 0 C.2.2.1 gX5_advance_X2_takeRing rfl rfl rfl (by decide +kernel) ⟨Nat.le_of_ble_eq_true rfl, Nat.le_of_ble_eq_true rfl⟩) rfl rfl (Nat.le_of_ble_eq_true rfl) dX5_advance_9 ?_
    refine xr_goto C 27 dX5_advance_12 (by decide) ?_
    exact xr_sub C [0] rfl (lab27 hh12   hf)
def f_X5_stepLive_45 (h : hp) (x1 : Int32) (x2 : Int32) : Option hp := bV (f_X5_advance h x1 x2) (fun hh5 => some hh5)
def f_X5_stepLive_28 (h : hp) (x1 : Int32) (x2 : Int32) : Option hp := if x1 = 0 then (f_X5_stepLive_45 h x1 x2) else (bV (f_X1_add h (h 0 7) x1 x2) (fun hh7 => f_X5_stepLive_45 hh7 x1 x2))
def f_X5_stepLive (h : hp) (x1 : Int32) : Option hp := if x1 = 2 then (f_X5_stepLive_28 (u2 h 0 6 0) x1 0) else (if x1 = 1 then (bM (f_X0_take h) (fun rr9 hh10 => f_X5_stepLive_28 hh10 x1 rr9)) else (f_X5_stepLive_28 h x1 0))
abbrev rmX5_stepLive : Room := { frames := 4, cells := 0, slots := 0, locals := 91 }
set_option maxHeartbeats 4000000 in
set_option maxRecDepth 100000 in
theorem c_X5_stepLive (l : Launch) (dC : Nat → ClassId) (dI : Nat → Nat → Nat) (cI cS : ClassId) (a : Nat → Nat) (hD : xD 95 a) (h : hp) (x1 : Int32) {h9 : hp} (hf : f_X5_stepLive h x1 = some h9) : XMv l yX5_stepLive wsX5_stepLive rmX5_stepLive (dC, dI) vwCl (kty cI cS) 95 a (kcf cI cS a) h [.ref (a 0), .int x1] h9 := by
  refine xm_v (cc := cX5_stepLive) (maxL := 3) (ws' := wsX5_stepLive.tail) (by decide) rfl hD (Nat.le_of_ble_eq_true rfl) [(0, .ref (a 0)), (1, .int x1)] rfl RX5 rfl ?_
  intro p e s m args below meth c C hlk hr
  have wl39 : Cond.fieldLink RX5 39 "RewindBox" "entries" "LRewindBox$Log;" ∈ wsX5_stepLive := by decide +kernel
  have wnX5 : ∀ w ∈ u_ws RX5 TX5 9, w ∈ wsX5_stepLive := by decide +kernel
  have wl78 : Cond.fieldLink RX5 78 "RewindBox" "now" "I" ∈ wsX5_stepLive := by decide +kernel
  have wl32 : Cond.fieldLink RX5 32 "RewindBox" "inputs" "LRewindBox$Inputs;" ∈ wsX5_stepLive := by decide +kernel
  have wl75 : Cond.fieldLink RX5 75 "RewindBox" "ringCame" "Z" ∈ wsX5_stepLive := by decide +kernel
  have lab45 : ∀ (h : hp) (x1 : Int32) (x2 : Int32) , f_X5_stepLive_45 h x1 x2 = some h9 → XJ p l e rmX5_stepLive s m args below meth c (dC, dI) vwCl 95 a (kcf cI cS a) 3 (MQ below (XQv (dC, dI) vwCl 95 a (kcf cI cS a) h9) args s 0 0 (xA 95 a)) h [(0, .ref (a 0)), (1, .int x1), (2, .int x2)] [] 45 := by
    intro h x1 x2  hf
    unfold f_X5_stepLive_45 at hf
    refine xr_aload_n C dX5_stepLive_45 0 rfl rfl ?_
    refine xr_iload_n C dX5_stepLive_46 1 rfl rfl ?_
    refine xr_iload_n C dX5_stepLive_47 2 rfl rfl ?_
    obtain ⟨hh5, ee4, hf⟩ := bV_some hf
    refine xr_callVv C (Cn := RX5) 0 (by decide) rfl rfl [.int x1, .int x2] [] (c_X5_advance l dC dI cI cS a hD h x1 x2 ee4) (cwV 2 C.2.2.1 gX5_stepLive_X5_advance rfl rfl rfl (by decide +kernel) ⟨Nat.le_of_ble_eq_true rfl, Nat.le_of_ble_eq_true rfl⟩) rfl rfl (Nat.le_of_ble_eq_true rfl) dX5_stepLive_48 ?_
    cases hf
    exact xr_vret C hlk hr dX5_stepLive_51
  have lab28 : ∀ (h : hp) (x1 : Int32) (x2 : Int32) , f_X5_stepLive_28 h x1 x2 = some h9 → XJ p l e rmX5_stepLive s m args below meth c (dC, dI) vwCl 95 a (kcf cI cS a) 3 (MQ below (XQv (dC, dI) vwCl 95 a (kcf cI cS a) h9) args s 0 0 (xA 95 a)) h [(0, .ref (a 0)), (1, .int x1), (2, .int x2)] [] 28 := by
    intro h x1 x2  hf
    unfold f_X5_stepLive_28 at hf
    refine xr_iload_n C dX5_stepLive_28 1 rfl rfl ?_
    refine xr_if_eq C 45 dX5_stepLive_29 (by decide) (fun cd3 => ?_) (fun cd3 => ?_)
    · rw [if_pos cd3] at hf
      exact xr_sub C [0, 1, 2] rfl (lab45 h x1 x2  hf)
    · rw [if_neg cd3] at hf
      refine xr_aload_n C dX5_stepLive_32 0 rfl rfl ?_
      refine xr_get C (ci := 5) (Cn := RX5) (T := TX5) (N := 9) (v := .ref (a 7)) 0 (by decide) rfl rfl 3 (by decide) wnX5 wl39 rfl rfl dX5_stepLive_33 ?_
      refine xr_aload_n C dX5_stepLive_36 0 rfl rfl ?_
      refine xr_get C (ci := 5) (Cn := RX5) (T := TX5) (N := 9) (v := .int (h 0 7)) 0 (by decide) rfl rfl 7 (by decide) wnX5 wl78 rfl rfl dX5_stepLive_37 ?_
      refine xr_iload_n C dX5_stepLive_40 1 rfl rfl ?_
      refine xr_iload_n C dX5_stepLive_41 2 rfl rfl ?_
      obtain ⟨hh7, ee6, hf⟩ := bV_some hf
      refine xr_callVv C (Cn := RX1) 7 (by decide) rfl rfl [.int (h 0 7), .int x1, .int x2] [] (c_X1_add l dC dI cI cS a hD h (h 0 7) x1 x2 ee6) (cwV 3 C.2.2.1 gX5_stepLive_X1_add rfl rfl rfl (by decide +kernel) ⟨Nat.le_of_ble_eq_true rfl, Nat.le_of_ble_eq_true rfl⟩) rfl rfl (Nat.le_of_ble_eq_true rfl) dX5_stepLive_42 ?_
      exact xr_sub C [0, 1, 2] rfl (lab45 hh7 x1 x2  hf)
  unfold f_X5_stepLive at hf
  refine xr_iconst C (v := 0) dX5_stepLive_0 (by decide +kernel) ?_
  refine xr_istore_n C [(2, .int 0), (0, .ref (a 0)), (1, .int x1)] dX5_stepLive_1 rfl (by decide) rfl ?_
  refine xr_iload_n C dX5_stepLive_2 2 rfl rfl ?_
  refine xr_iconst C (v := 2) dX5_stepLive_3 (by decide +kernel) ?_
  refine xr_icmp_ne C 15 dX5_stepLive_4 (by decide) (fun cd1 => ?_) (fun cd1 => ?_)
  · rw [if_neg cd1] at hf
    refine xr_iload_n C dX5_stepLive_15 2 rfl rfl ?_
    refine xr_iconst C (v := 1) dX5_stepLive_16 (by decide +kernel) ?_
    refine xr_icmp_ne C 28 dX5_stepLive_17 (by decide) (fun cd2 => ?_) (fun cd2 => ?_)
    · rw [if_neg cd2] at hf
      exact xr_sub C [1, 2, 0] rfl (lab28 h x1 0  hf)
    · rw [if_pos cd2] at hf
      refine xr_aload_n C dX5_stepLive_20 1 rfl rfl ?_
      refine xr_get C (ci := 5) (Cn := RX5) (T := TX5) (N := 9) (v := .ref (a 5)) 0 (by decide) rfl rfl 2 (by decide) wnX5 wl32 rfl rfl dX5_stepLive_21 ?_
      obtain ⟨rr9, hh10, ee8, hf⟩ := bM_some hf
      refine xr_callVi C (Cn := RX0) 5 (by decide) rfl rfl [] [] (c_X0_take l dC dI cI cS a hD h ee8) (cwV 0 C.2.2.1 gX5_stepLive_X0_take rfl rfl rfl (by decide +kernel) ⟨Nat.le_of_ble_eq_true rfl, Nat.le_of_ble_eq_true rfl⟩) rfl rfl (Nat.le_of_ble_eq_true rfl) dX5_stepLive_24 ?_
      refine xr_istore_n C [(2, .int rr9), (0, .ref (a 0)), (1, .int x1)] dX5_stepLive_27 rfl (by decide) rfl ?_
      exact xr_sub C [1, 2, 0] rfl (lab28 hh10 x1 rr9  hf)
  · rw [if_pos cd1] at hf
    refine xr_aload_n C dX5_stepLive_7 1 rfl rfl ?_
    refine xr_iconst C (v := 0) dX5_stepLive_8 (by decide +kernel) ?_
    refine xr_put C (ci := 5) (Cn := RX5) (T := TX5) (N := 9) (ty := .boolean) (v := 0) 0 (by decide) rfl rfl 6 (by decide) wnX5 wl75 rfl tyX5 tyX5_ok nmX5 rfl (by decide +kernel) (by decide +kernel) (by decide +kernel) (Nat.le_of_ble_eq_true rfl) rfl dX5_stepLive_9 ?_
    refine xr_goto C 28 dX5_stepLive_12 (by decide) ?_
    exact xr_sub C [1, 2, 0] rfl (lab28 (u2 h 0 6 0) x1 0  hf)
def f_X5_stepByLog (h : hp)  : Option hp := bR (f_X1_countBefore h (h 0 7)) (fun rr2 => if h 7 3 ≤ rr2 then (bV (f_X5_advance h 0 0) (fun hh5 => some hh5)) else (gd (¬ (rr2 < 0 ∨ 300 ≤ rr2.toNatClampNeg)) (if h 8 rr2.toNatClampNeg = h 0 7 then (gd (¬ (rr2 < 0 ∨ 300 ≤ rr2.toNatClampNeg)) (gd (¬ (rr2 < 0 ∨ 300 ≤ rr2.toNatClampNeg)) (bV (f_X5_advance h (h 9 rr2.toNatClampNeg) (h 10 rr2.toNatClampNeg)) (fun hh13 => some hh13)))) else (bV (f_X5_advance h 0 0) (fun hh9 => some hh9)))))
abbrev rmX5_stepByLog : Room := { frames := 4, cells := 0, slots := 0, locals := 91 }
set_option maxHeartbeats 4000000 in
set_option maxRecDepth 100000 in
theorem c_X5_stepByLog (l : Launch) (dC : Nat → ClassId) (dI : Nat → Nat → Nat) (cI cS : ClassId) (a : Nat → Nat) (hD : xD 95 a) (h : hp)  {h9 : hp} (hf : f_X5_stepByLog h  = some h9) : XMv l yX5_stepByLog wsX5_stepByLog rmX5_stepByLog (dC, dI) vwCl (kty cI cS) 95 a (kcf cI cS a) h [.ref (a 0)] h9 := by
  refine xm_v (cc := cX5_stepByLog) (maxL := 2) (ws' := wsX5_stepByLog.tail) (by decide) rfl hD (Nat.le_of_ble_eq_true rfl) [(0, .ref (a 0))] rfl RX5 rfl ?_
  intro p e s m args below meth c C hlk hr
  have wl39 : Cond.fieldLink RX5 39 "RewindBox" "entries" "LRewindBox$Log;" ∈ wsX5_stepByLog := by decide +kernel
  have wnX5 : ∀ w ∈ u_ws RX5 TX5 9, w ∈ wsX5_stepByLog := by decide +kernel
  have wl78 : Cond.fieldLink RX5 78 "RewindBox" "now" "I" ∈ wsX5_stepByLog := by decide +kernel
  have wl68 : Cond.fieldLink RX5 68 "RewindBox$Log" "count" "I" ∈ wsX5_stepByLog := by decide +kernel
  have wnX1 : ∀ w ∈ u_ws RX1 TX1 4, w ∈ wsX5_stepByLog := by decide +kernel
  have wl124 : Cond.fieldLink RX5 124 "RewindBox$Log" "positions" "[I" ∈ wsX5_stepByLog := by decide +kernel
  have wl127 : Cond.fieldLink RX5 127 "RewindBox$Log" "kinds" "[I" ∈ wsX5_stepByLog := by decide +kernel
  have wl130 : Cond.fieldLink RX5 130 "RewindBox$Log" "values" "[I" ∈ wsX5_stepByLog := by decide +kernel
  unfold f_X5_stepByLog at hf
  refine xr_aload_n C dX5_stepByLog_0 0 rfl rfl ?_
  refine xr_get C (ci := 5) (Cn := RX5) (T := TX5) (N := 9) (v := .ref (a 7)) 0 (by decide) rfl rfl 3 (by decide) wnX5 wl39 rfl rfl dX5_stepByLog_1 ?_
  refine xr_aload_n C dX5_stepByLog_4 0 rfl rfl ?_
  refine xr_get C (ci := 5) (Cn := RX5) (T := TX5) (N := 9) (v := .int (h 0 7)) 0 (by decide) rfl rfl 7 (by decide) wnX5 wl78 rfl rfl dX5_stepByLog_5 ?_
  obtain ⟨rr2, ee1, hf⟩ := bR_some hf
  refine xr_callVi C (Cn := RX1) 7 (by decide) rfl rfl [.int (h 0 7)] [] (c_X1_countBefore l dC dI cI cS a hD h (h 0 7) ee1) (cwV 1 C.2.2.1 gX5_stepByLog_X1_countBefore rfl rfl rfl (by decide +kernel) ⟨Nat.le_of_ble_eq_true rfl, Nat.le_of_ble_eq_true rfl⟩) rfl rfl (Nat.le_of_ble_eq_true rfl) dX5_stepByLog_8 ?_
  refine xr_istore_n C [(1, .int rr2), (0, .ref (a 0))] dX5_stepByLog_11 rfl (by decide) rfl ?_
  refine xr_iload_n C dX5_stepByLog_12 0 rfl rfl ?_
  refine xr_aload_n C dX5_stepByLog_13 1 rfl rfl ?_
  refine xr_get C (ci := 5) (Cn := RX5) (T := TX5) (N := 9) (v := .ref (a 7)) 0 (by decide) rfl rfl 3 (by decide) wnX5 wl39 rfl rfl dX5_stepByLog_14 ?_
  refine xr_get C (ci := 1) (Cn := RX1) (T := TX1) (N := 4) (v := .int (h 7 3)) 7 (by decide) rfl rfl 3 (by decide) wnX1 wl68 rfl rfl dX5_stepByLog_17 ?_
  refine xr_icmp_ge C 64 dX5_stepByLog_20 (by decide) (fun cd3 => ?_) (fun cd3 => ?_)
  · rw [if_pos cd3] at hf
    refine xr_aload_n C dX5_stepByLog_64 1 rfl rfl ?_
    refine xr_iconst C (v := 0) dX5_stepByLog_65 (by decide +kernel) ?_
    refine xr_iconst C (v := 0) dX5_stepByLog_66 (by decide +kernel) ?_
    obtain ⟨hh5, ee4, hf⟩ := bV_some hf
    refine xr_callVv C (Cn := RX5) 0 (by decide) rfl rfl [.int 0, .int 0] [] (c_X5_advance l dC dI cI cS a hD h 0 0 ee4) (cwV 2 C.2.2.1 gX5_stepByLog_X5_advance rfl rfl rfl (by decide +kernel) ⟨Nat.le_of_ble_eq_true rfl, Nat.le_of_ble_eq_true rfl⟩) rfl rfl (Nat.le_of_ble_eq_true rfl) dX5_stepByLog_67 ?_
    cases hf
    exact xr_vret C hlk hr dX5_stepByLog_70
  · rw [if_neg cd3] at hf
    refine xr_aload_n C dX5_stepByLog_23 1 rfl rfl ?_
    refine xr_get C (ci := 5) (Cn := RX5) (T := TX5) (N := 9) (v := .ref (a 7)) 0 (by decide) rfl rfl 3 (by decide) wnX5 wl39 rfl rfl dX5_stepByLog_24 ?_
    refine xr_get C (ci := 1) (Cn := RX1) (T := TX1) (N := 4) (v := .ref (a 8)) 7 (by decide) rfl rfl 0 (by decide) wnX1 wl124 rfl rfl dX5_stepByLog_27 ?_
    refine xr_iload_n C dX5_stepByLog_30 0 rfl rfl ?_
    obtain ⟨gg6, hf⟩ := gd_some hf
    refine xr_iald C (v := h 8 rr2.toNatClampNeg) 8 (by decide) 0 rfl rfl gg6 rfl dX5_stepByLog_31 ?_
    refine xr_aload_n C dX5_stepByLog_32 1 rfl rfl ?_
    refine xr_get C (ci := 5) (Cn := RX5) (T := TX5) (N := 9) (v := .int (h 0 7)) 0 (by decide) rfl rfl 7 (by decide) wnX5 wl78 rfl rfl dX5_stepByLog_33 ?_
    refine xr_icmp_ne C 64 dX5_stepByLog_36 (by decide) (fun cd7 => ?_) (fun cd7 => ?_)
    · rw [if_neg cd7] at hf
      refine xr_aload_n C dX5_stepByLog_64 1 rfl rfl ?_
      refine xr_iconst C (v := 0) dX5_stepByLog_65 (by decide +kernel) ?_
      refine xr_iconst C (v := 0) dX5_stepByLog_66 (by decide +kernel) ?_
      obtain ⟨hh9, ee8, hf⟩ := bV_some hf
      refine xr_callVv C (Cn := RX5) 0 (by decide) rfl rfl [.int 0, .int 0] [] (c_X5_advance l dC dI cI cS a hD h 0 0 ee8) (cwV 2 C.2.2.1 gX5_stepByLog_X5_advance rfl rfl rfl (by decide +kernel) ⟨Nat.le_of_ble_eq_true rfl, Nat.le_of_ble_eq_true rfl⟩) rfl rfl (Nat.le_of_ble_eq_true rfl) dX5_stepByLog_67 ?_
      cases hf
      exact xr_vret C hlk hr dX5_stepByLog_70
    · rw [if_pos cd7] at hf
      refine xr_aload_n C dX5_stepByLog_39 1 rfl rfl ?_
      refine xr_aload_n C dX5_stepByLog_40 1 rfl rfl ?_
      refine xr_get C (ci := 5) (Cn := RX5) (T := TX5) (N := 9) (v := .ref (a 7)) 0 (by decide) rfl rfl 3 (by decide) wnX5 wl39 rfl rfl dX5_stepByLog_41 ?_
      refine xr_get C (ci := 1) (Cn := RX1) (T := TX1) (N := 4) (v := .ref (a 9)) 7 (by decide) rfl rfl 1 (by decide) wnX1 wl127 rfl rfl dX5_stepByLog_44 ?_
      refine xr_iload_n C dX5_stepByLog_47 0 rfl rfl ?_
      obtain ⟨gg10, hf⟩ := gd_some hf
      refine xr_iald C (v := h 9 rr2.toNatClampNeg) 9 (by decide) 0 rfl rfl gg10 rfl dX5_stepByLog_48 ?_
      refine xr_aload_n C dX5_stepByLog_49 1 rfl rfl ?_
      refine xr_get C (ci := 5) (Cn := RX5) (T := TX5) (N := 9) (v := .ref (a 7)) 0 (by decide) rfl rfl 3 (by decide) wnX5 wl39 rfl rfl dX5_stepByLog_50 ?_
      refine xr_get C (ci := 1) (Cn := RX1) (T := TX1) (N := 4) (v := .ref (a 10)) 7 (by decide) rfl rfl 2 (by decide) wnX1 wl130 rfl rfl dX5_stepByLog_53 ?_
      refine xr_iload_n C dX5_stepByLog_56 0 rfl rfl ?_
      obtain ⟨gg11, hf⟩ := gd_some hf
      refine xr_iald C (v := h 10 rr2.toNatClampNeg) 10 (by decide) 0 rfl rfl gg11 rfl dX5_stepByLog_57 ?_
      obtain ⟨hh13, ee12, hf⟩ := bV_some hf
      refine xr_callVv C (Cn := RX5) 0 (by decide) rfl rfl [.int (h 9 rr2.toNatClampNeg), .int (h 10 rr2.toNatClampNeg)] [] (c_X5_advance l dC dI cI cS a hD h (h 9 rr2.toNatClampNeg) (h 10 rr2.toNatClampNeg) ee12) (cwV 2 C.2.2.1 gX5_stepByLog_X5_advance rfl rfl rfl (by decide +kernel) ⟨Nat.le_of_ble_eq_true rfl, Nat.le_of_ble_eq_true rfl⟩) rfl rfl (Nat.le_of_ble_eq_true rfl) dX5_stepByLog_58 ?_
      refine xr_goto C 70 dX5_stepByLog_61 (by decide) ?_
      cases hf
      exact xr_vret C hlk hr dX5_stepByLog_70
def f_X5_tryStep (h : hp)  : Option (Int32 × hp) := if h 0 8 ≤ h 0 7 then (bR (f_X5_nextLiveKind h) (fun rr3 => if rr3 = (-1) then (some (0, h)) else (bR (f_X5_isFull h rr3) (fun rr6 => if rr6 = 0 then (bV (f_X5_stepLive h rr3) (fun hh9 => some (1, hh9))) else (some (0, h)))))) else (bV (f_X5_stepByLog h) (fun hh11 => some (1, hh11)))
abbrev rmX5_tryStep : Room := { frames := 5, cells := 0, slots := 0, locals := 113 }
set_option maxHeartbeats 4000000 in
set_option maxRecDepth 100000 in
theorem c_X5_tryStep (l : Launch) (dC : Nat → ClassId) (dI : Nat → Nat → Nat) (cI cS : ClassId) (a : Nat → Nat) (hD : xD 95 a) (h : hp)  {r9 : Int32} {h9 : hp} (hf : f_X5_tryStep h  = some (r9, h9)) : XMi l yX5_tryStep wsX5_tryStep rmX5_tryStep (dC, dI) vwCl (kty cI cS) 95 a (kcf cI cS a) h [.ref (a 0)] r9 h9 := by
  refine xm_i (cc := cX5_tryStep) (maxL := 2) (ws' := wsX5_tryStep.tail) (by decide) rfl hD (Nat.le_of_ble_eq_true rfl) [(0, .ref (a 0))] rfl RX5 rfl ?_
  intro p e s m args below meth c C hlk hr
  have wl78 : Cond.fieldLink RX5 78 "RewindBox" "now" "I" ∈ wsX5_tryStep := by decide +kernel
  have wnX5 : ∀ w ∈ u_ws RX5 TX5 9, w ∈ wsX5_tryStep := by decide +kernel
  have wl81 : Cond.fieldLink RX5 81 "RewindBox" "end" "I" ∈ wsX5_tryStep := by decide +kernel
  unfold f_X5_tryStep at hf
  refine xr_aload_n C dX5_tryStep_0 0 rfl rfl ?_
  refine xr_get C (ci := 5) (Cn := RX5) (T := TX5) (N := 9) (v := .int (h 0 7)) 0 (by decide) rfl rfl 7 (by decide) wnX5 wl78 rfl rfl dX5_tryStep_1 ?_
  refine xr_aload_n C dX5_tryStep_4 0 rfl rfl ?_
  refine xr_get C (ci := 5) (Cn := RX5) (T := TX5) (N := 9) (v := .int (h 0 8)) 0 (by decide) rfl rfl 8 (by decide) wnX5 wl81 rfl rfl dX5_tryStep_5 ?_
  refine xr_icmp_ge C 17 dX5_tryStep_8 (by decide) (fun cd1 => ?_) (fun cd1 => ?_)
  · rw [if_pos cd1] at hf
    refine xr_aload_n C dX5_tryStep_17 0 rfl rfl ?_
    obtain ⟨rr3, ee2, hf⟩ := bR_some hf
    refine xr_callVi C (Cn := RX5) 0 (by decide) rfl rfl [] [] (c_X5_nextLiveKind l dC dI cI cS a hD h ee2) (cwV 0 C.2.2.1 gX5_tryStep_X5_nextLiveKind rfl rfl rfl (by decide +kernel) ⟨Nat.le_of_ble_eq_true rfl, Nat.le_of_ble_eq_true rfl⟩) rfl rfl (Nat.le_of_ble_eq_true rfl) dX5_tryStep_18 ?_
    refine xr_istore_n C [(1, .int rr3), (0, .ref (a 0))] dX5_tryStep_21 rfl (by decide) rfl ?_
    refine xr_iload_n C dX5_tryStep_22 0 rfl rfl ?_
    refine xr_iconst C (v := (-1)) dX5_tryStep_23 (by decide +kernel) ?_
    refine xr_icmp_eq C 35 dX5_tryStep_24 (by decide) (fun cd4 => ?_) (fun cd4 => ?_)
    · rw [if_pos cd4] at hf
      refine xr_iconst C (v := 0) dX5_tryStep_35 (by decide +kernel) ?_
      cases hf
      exact xr_zret C hlk hr (by decide +kernel) dX5_tryStep_36
    · rw [if_neg cd4] at hf
      refine xr_aload_n C dX5_tryStep_27 1 rfl rfl ?_
      refine xr_iload_n C dX5_tryStep_28 0 rfl rfl ?_
      obtain ⟨rr6, ee5, hf⟩ := bR_some hf
      refine xr_callVi C (Cn := RX5) 0 (by decide) rfl rfl [.int rr3] [] (c_X5_isFull l dC dI cI cS a hD h rr3 ee5) (cwV 1 C.2.2.1 gX5_tryStep_X5_isFull rfl rfl rfl (by decide +kernel) ⟨Nat.le_of_ble_eq_true rfl, Nat.le_of_ble_eq_true rfl⟩) rfl rfl (Nat.le_of_ble_eq_true rfl) dX5_tryStep_29 ?_
      refine xr_if_eq C 37 dX5_tryStep_32 (by decide) (fun cd7 => ?_) (fun cd7 => ?_)
      · rw [if_pos cd7] at hf
        refine xr_aload_n C dX5_tryStep_37 1 rfl rfl ?_
        refine xr_iload_n C dX5_tryStep_38 0 rfl rfl ?_
        obtain ⟨hh9, ee8, hf⟩ := bV_some hf
        refine xr_callVv C (Cn := RX5) 0 (by decide) rfl rfl [.int rr3] [] (c_X5_stepLive l dC dI cI cS a hD h rr3 ee8) (cwV 1 C.2.2.1 gX5_tryStep_X5_stepLive rfl rfl rfl (by decide +kernel) ⟨Nat.le_of_ble_eq_true rfl, Nat.le_of_ble_eq_true rfl⟩) rfl rfl (Nat.le_of_ble_eq_true rfl) dX5_tryStep_39 ?_
        refine xr_iconst C (v := 1) dX5_tryStep_42 (by decide +kernel) ?_
        cases hf
        exact xr_zret C hlk hr (by decide +kernel) dX5_tryStep_43
      · rw [if_neg cd7] at hf
        refine xr_iconst C (v := 0) dX5_tryStep_35 (by decide +kernel) ?_
        cases hf
        exact xr_zret C hlk hr (by decide +kernel) dX5_tryStep_36
  · rw [if_neg cd1] at hf
    refine xr_aload_n C dX5_tryStep_11 0 rfl rfl ?_
    obtain ⟨hh11, ee10, hf⟩ := bV_some hf
    refine xr_callVv C (Cn := RX5) 0 (by decide) rfl rfl [] [] (c_X5_stepByLog l dC dI cI cS a hD h ee10) (cwV 0 C.2.2.1 gX5_tryStep_X5_stepByLog rfl rfl rfl (by decide +kernel) ⟨Nat.le_of_ble_eq_true rfl, Nat.le_of_ble_eq_true rfl⟩) rfl rfl (Nat.le_of_ble_eq_true rfl) dX5_tryStep_12 ?_
    refine xr_iconst C (v := 1) dX5_tryStep_15 (by decide +kernel) ?_
    cases hf
    exact xr_zret C hlk hr (by decide +kernel) dX5_tryStep_16
def f_X5_step_19 : Nat → hp → Int32 → Int32 → Int32 → Option (Int32 × hp)
  | 0, _, _, _, _ => none
  | n + 1, h, x1, x2, x3 => if x2 ≤ x3 then (some (x3, h)) else (bM (f_X5_tryStep h) (fun rr5 hh6 => if rr5 = 0 then (some (x3, hh6)) else (f_X5_step_19 n hh6 x1 x2 (x3 + 1))))
def f_X5_step (h : hp) (x1 : Int32) : Option (Int32 × hp) := if h 0 5 = 0 then (some ((-1), h)) else (gl (if (10000 : Int32) < x1 then 10000 else x1) (fun v2 => f_X5_step_19 20000 h x1 v2 0))
abbrev rmX5_step : Room := { frames := 6, cells := 0, slots := 0, locals := 134 }
set_option maxHeartbeats 4000000 in
set_option maxRecDepth 100000 in
theorem c_X5_step (l : Launch) (dC : Nat → ClassId) (dI : Nat → Nat → Nat) (cI cS : ClassId) (a : Nat → Nat) (hD : xD 95 a) (h : hp) (x1 : Int32) {r9 : Int32} {h9 : hp} (hf : f_X5_step h x1 = some (r9, h9)) : XMi l yX5_step wsX5_step rmX5_step (dC, dI) vwCl (kty cI cS) 95 a (kcf cI cS a) h [.ref (a 0), .int x1] r9 h9 := by
  refine xm_i (cc := cX5_step) (maxL := 4) (ws' := wsX5_step.tail) (by decide) rfl hD (Nat.le_of_ble_eq_true rfl) [(0, .ref (a 0)), (1, .int x1)] rfl RX5 rfl ?_
  intro p e s m args below meth c C hlk hr
  have wl50 : Cond.fieldLink RX5 50 "RewindBox" "recording" "Z" ∈ wsX5_step := by decide +kernel
  have wnX5 : ∀ w ∈ u_ws RX5 TX5 9, w ∈ wsX5_step := by decide +kernel
  have wmmin0 : Cond.methodLink RX5 9 Lib.Math.min.name ∈ wsX5_step := by decide +kernel
  have wmmin1 : Cond.static Lib.Math.min.name ∈ wsX5_step := by decide +kernel
  have wmmin2 : Cond.initialized "java/lang/Math" ∈ wsX5_step := by decide +kernel
  have wmmin3 : Cond.code Lib.Math.min.name Lib.Math.min.code 2 (some .int) ∈ wsX5_step := by decide +kernel
  have lab19 : ∀ (n : Nat) (h : hp) (x1 : Int32) (x2 : Int32) (x3 : Int32) , f_X5_step_19 n h x1 x2 x3 = some (r9, h9) → XJ p l e rmX5_step s m args below meth c (dC, dI) vwCl 95 a (kcf cI cS a) 4 (MQ below (XQi (dC, dI) vwCl 95 a (kcf cI cS a) r9 h9) args s 0 0 (xA 95 a)) h [(0, .ref (a 0)), (1, .int x1), (2, .int x2), (3, .int x3)] [] 19 := by
    intro n
    induction n with
    | zero => intro h x1 x2 x3  hf; simp [f_X5_step_19] at hf
    | succ n ih =>
      intro h x1 x2 x3  hf
      rw [f_X5_step_19] at hf
      refine xr_iload_n C dX5_step_19 3 rfl rfl ?_
      refine xr_iload_n C dX5_step_20 2 rfl rfl ?_
      refine xr_icmp_ge C 37 dX5_step_21 (by decide) (fun cd3 => ?_) (fun cd3 => ?_)
      · rw [if_pos cd3] at hf
        refine xr_iload_n C dX5_step_37 3 rfl rfl ?_
        cases hf
        exact xr_iret C hlk hr dX5_step_38
      · rw [if_neg cd3] at hf
        refine xr_aload_n C dX5_step_24 0 rfl rfl ?_
        obtain ⟨rr5, hh6, ee4, hf⟩ := bM_some hf
        refine xr_callVi C (Cn := RX5) 0 (by decide) rfl rfl [] [] (c_X5_tryStep l dC dI cI cS a hD h ee4) (cwV 0 C.2.2.1 gX5_step_X5_tryStep rfl rfl rfl (by decide +kernel) ⟨Nat.le_of_ble_eq_true rfl, Nat.le_of_ble_eq_true rfl⟩) rfl rfl (Nat.le_of_ble_eq_true rfl) dX5_step_25 ?_
        refine xr_if_eq C 37 dX5_step_28 (by decide) (fun cd7 => ?_) (fun cd7 => ?_)
        · rw [if_pos cd7] at hf
          refine xr_iload_n C dX5_step_37 3 rfl rfl ?_
          cases hf
          exact xr_iret C hlk hr dX5_step_38
        · rw [if_neg cd7] at hf
          refine xr_iinc C [(3, .int (x3 + 1)), (0, .ref (a 0)), (1, .int x1), (2, .int x2)] dX5_step_31 3 rfl rfl (by decide) rfl ?_
          refine xr_goto C 19 dX5_step_34 (by decide) ?_
          exact xr_sub C [1, 2, 3, 0] rfl (ih hh6 x1 x2 (x3 + 1)  hf)
  unfold f_X5_step at hf
  refine xr_aload_n C dX5_step_0 0 rfl rfl ?_
  refine xr_get C (ci := 5) (Cn := RX5) (T := TX5) (N := 9) (v := .int (h 0 5)) 0 (by decide) rfl rfl 5 (by decide) wnX5 wl50 rfl rfl dX5_step_1 ?_
  refine xr_if_ne C 9 dX5_step_4 (by decide) (fun cd1 => ?_) (fun cd1 => ?_)
  · rw [if_neg cd1] at hf
    refine xr_iload_n C dX5_step_9 1 rfl rfl ?_
    refine xr_sipush C (v := 10000) dX5_step_10 (by decide +kernel) ?_
    refine xr_mmin C wmmin0 wmmin1 wmmin2 wmmin3 (Nat.le_of_ble_eq_true rfl) (Nat.le_of_ble_eq_true rfl) dX5_step_13 ?_
    refine xr_topi C (fun v2 ev2 => ?_)
    have hf := gl_at hf v2 ev2
    refine xr_istore_n C [(2, .int v2), (0, .ref (a 0)), (1, .int x1)] dX5_step_16 rfl (by decide) rfl ?_
    refine xr_iconst C (v := 0) dX5_step_17 (by decide +kernel) ?_
    refine xr_istore_n C [(3, .int 0), (2, .int v2), (0, .ref (a 0)), (1, .int x1)] dX5_step_18 rfl (by decide) rfl ?_
    exact xr_sub C [2, 3, 1, 0] rfl (lab19 20000 h x1 v2 0  hf)
  · rw [if_pos cd1] at hf
    refine xr_iconst C (v := (-1)) dX5_step_7 (by decide +kernel) ?_
    cases hf
    exact xr_iret C hlk hr dX5_step_8
def f_X5_go_46 : Nat → hp → Int32 → Int32 → Int32 → Option (Int32 × hp)
  | 0, _, _, _, _ => none
  | n + 1, h, x1, x2, x3 => if x3 ≤ 0 then (some (1, h)) else (bV (f_X5_stepByLog h) (fun hh11 => f_X5_go_46 n hh11 x1 x2 (x3 + (-1))))
def f_X5_go (h : hp) (x1 : Int32) : Option (Int32 × hp) := bR (f_X5_isOnRecord h x1) (fun rr2 => if rr2 = 0 then (some (0, h)) else (gd (¬ (h 0 0) = 0) (gl (x1 / (h 0 0)) (fun v5 => bV (f_X4_restore h v5) (fun hh7 => gl (x1 - (v5 * (hh7 0 0))) (fun v8 => f_X5_go_46 1000 (u2 hh7 0 7 (v5 * (hh7 0 0))) x1 v5 v8))))))
abbrev rmX5_go : Room := { frames := 5, cells := 0, slots := 0, locals := 112 }
set_option maxHeartbeats 4000000 in
set_option maxRecDepth 100000 in
theorem c_X5_go (l : Launch) (dC : Nat → ClassId) (dI : Nat → Nat → Nat) (cI cS : ClassId) (a : Nat → Nat) (hD : xD 95 a) (h : hp) (x1 : Int32) {r9 : Int32} {h9 : hp} (hf : f_X5_go h x1 = some (r9, h9)) : XMi l yX5_go wsX5_go rmX5_go (dC, dI) vwCl (kty cI cS) 95 a (kcf cI cS a) h [.ref (a 0), .int x1] r9 h9 := by
  refine xm_i (cc := cX5_go) (maxL := 4) (ws' := wsX5_go.tail) (by decide) rfl hD (Nat.le_of_ble_eq_true rfl) [(0, .ref (a 0)), (1, .int x1)] rfl RX5 rfl ?_
  intro p e s m args below meth c C hlk hr
  have wl18 : Cond.fieldLink RX5 18 "RewindBox" "interval" "I" ∈ wsX5_go := by decide +kernel
  have wnX5 : ∀ w ∈ u_ws RX5 TX5 9, w ∈ wsX5_go := by decide +kernel
  have wl46 : Cond.fieldLink RX5 46 "RewindBox" "snapshots" "LRewindBox$Snapshots;" ∈ wsX5_go := by decide +kernel
  have wl25 : Cond.fieldLink RX5 25 "RewindBox" "machine" "LRewindBox$Machine;" ∈ wsX5_go := by decide +kernel
  have wl78 : Cond.fieldLink RX5 78 "RewindBox" "now" "I" ∈ wsX5_go := by decide +kernel
  have lab46 : ∀ (n : Nat) (h : hp) (x1 : Int32) (x2 : Int32) (x3 : Int32) , f_X5_go_46 n h x1 x2 x3 = some (r9, h9) → XJ p l e rmX5_go s m args below meth c (dC, dI) vwCl 95 a (kcf cI cS a) 4 (MQ below (XQi (dC, dI) vwCl 95 a (kcf cI cS a) r9 h9) args s 0 0 (xA 95 a)) h [(0, .ref (a 0)), (1, .int x1), (2, .int x2), (3, .int x3)] [] 46 := by
    intro n
    induction n with
    | zero => intro h x1 x2 x3  hf; simp [f_X5_go_46] at hf
    | succ n ih =>
      intro h x1 x2 x3  hf
      rw [f_X5_go_46] at hf
      refine xr_iload_n C dX5_go_46 3 rfl rfl ?_
      refine xr_if_le C 60 dX5_go_47 (by decide) (fun cd9 => ?_) (fun cd9 => ?_)
      · rw [if_pos cd9] at hf
        refine xr_iconst C (v := 1) dX5_go_60 (by decide +kernel) ?_
        cases hf
        exact xr_zret C hlk hr (by decide +kernel) dX5_go_61
      · rw [if_neg cd9] at hf
        refine xr_aload_n C dX5_go_50 0 rfl rfl ?_
        obtain ⟨hh11, ee10, hf⟩ := bV_some hf
        refine xr_callVv C (Cn := RX5) 0 (by decide) rfl rfl [] [] (c_X5_stepByLog l dC dI cI cS a hD h ee10) (cwV 0 C.2.2.1 gX5_go_X5_stepByLog rfl rfl rfl (by decide +kernel) ⟨Nat.le_of_ble_eq_true rfl, Nat.le_of_ble_eq_true rfl⟩) rfl rfl (Nat.le_of_ble_eq_true rfl) dX5_go_51 ?_
        refine xr_iinc C [(3, .int (x3 + (-1))), (0, .ref (a 0)), (1, .int x1), (2, .int x2)] dX5_go_54 3 rfl rfl (by decide) rfl ?_
        refine xr_goto C 46 dX5_go_57 (by decide) ?_
        exact xr_sub C [1, 2, 3, 0] rfl (ih hh11 x1 x2 (x3 + (-1))  hf)
  unfold f_X5_go at hf
  refine xr_aload_n C dX5_go_0 0 rfl rfl ?_
  refine xr_iload_n C dX5_go_1 1 rfl rfl ?_
  obtain ⟨rr2, ee1, hf⟩ := bR_some hf
  refine xr_callVi C (Cn := RX5) 0 (by decide) rfl rfl [.int x1] [] (c_X5_isOnRecord l dC dI cI cS a hD h x1 ee1) (cwV 1 C.2.2.1 gX5_go_X5_isOnRecord rfl rfl rfl (by decide +kernel) ⟨Nat.le_of_ble_eq_true rfl, Nat.le_of_ble_eq_true rfl⟩) rfl rfl (Nat.le_of_ble_eq_true rfl) dX5_go_2 ?_
  refine xr_if_ne C 10 dX5_go_5 (by decide) (fun cd3 => ?_) (fun cd3 => ?_)
  · rw [if_neg cd3] at hf
    refine xr_iload_n C dX5_go_10 1 rfl rfl ?_
    refine xr_aload_n C dX5_go_11 0 rfl rfl ?_
    refine xr_get C (ci := 5) (Cn := RX5) (T := TX5) (N := 9) (v := .int (h 0 0)) 0 (by decide) rfl rfl 0 (by decide) wnX5 wl18 rfl rfl dX5_go_12 ?_
    obtain ⟨gg4, hf⟩ := gd_some hf
    refine xr_idiv C dX5_go_15 gg4 ?_
    refine xr_topi C (fun v5 ev5 => ?_)
    have hf := gl_at hf v5 ev5
    refine xr_istore_n C [(2, .int v5), (0, .ref (a 0)), (1, .int x1)] dX5_go_16 rfl (by decide) rfl ?_
    refine xr_aload_n C dX5_go_17 1 rfl rfl ?_
    refine xr_get C (ci := 5) (Cn := RX5) (T := TX5) (N := 9) (v := .ref (a 11)) 0 (by decide) rfl rfl 4 (by decide) wnX5 wl46 rfl rfl dX5_go_18 ?_
    refine xr_iload_n C dX5_go_21 0 rfl rfl ?_
    refine xr_aload_n C dX5_go_22 1 rfl rfl ?_
    refine xr_get C (ci := 5) (Cn := RX5) (T := TX5) (N := 9) (v := .ref (a 1)) 0 (by decide) rfl rfl 1 (by decide) wnX5 wl25 rfl rfl dX5_go_23 ?_
    obtain ⟨hh7, ee6, hf⟩ := bV_some hf
    refine xr_callVv C (Cn := RX4) 11 (by decide) rfl rfl [.int v5, .ref (a 1)] [] (c_X4_restore l dC dI cI cS a hD h v5 ee6) (cwV 2 C.2.2.1 gX5_go_X4_restore rfl rfl rfl (by decide +kernel) ⟨Nat.le_of_ble_eq_true rfl, Nat.le_of_ble_eq_true rfl⟩) rfl rfl (Nat.le_of_ble_eq_true rfl) dX5_go_26 ?_
    refine xr_aload_n C dX5_go_29 1 rfl rfl ?_
    refine xr_iload_n C dX5_go_30 0 rfl rfl ?_
    refine xr_aload_n C dX5_go_31 1 rfl rfl ?_
    refine xr_get C (ci := 5) (Cn := RX5) (T := TX5) (N := 9) (v := .int (hh7 0 0)) 0 (by decide) rfl rfl 0 (by decide) wnX5 wl18 rfl rfl dX5_go_32 ?_
    refine xr_imul C dX5_go_35 ?_
    refine xr_put C (ci := 5) (Cn := RX5) (T := TX5) (N := 9) (ty := .int) (v := (v5 * (hh7 0 0))) 0 (by decide) rfl rfl 7 (by decide) wnX5 wl78 rfl tyX5 tyX5_ok nmX5 rfl (by decide +kernel) rfl rfl (Nat.le_of_ble_eq_true rfl) rfl dX5_go_36 ?_
    refine xr_iload_n C dX5_go_39 2 rfl rfl ?_
    refine xr_aload_n C dX5_go_40 1 rfl rfl ?_
    refine xr_get C (ci := 5) (Cn := RX5) (T := TX5) (N := 9) (v := .int (v5 * (hh7 0 0))) 0 (by decide) rfl rfl 7 (by decide) wnX5 wl78 rfl rfl dX5_go_41 ?_
    refine xr_isub C dX5_go_44 ?_
    refine xr_topi C (fun v8 ev8 => ?_)
    have hf := gl_at hf v8 ev8
    refine xr_istore_n C [(3, .int v8), (2, .int v5), (0, .ref (a 0)), (1, .int x1)] dX5_go_45 rfl (by decide) rfl ?_
    exact xr_sub C [2, 3, 1, 0] rfl (lab46 1000 (u2 hh7 0 7 (v5 * (hh7 0 0))) x1 v5 v8  hf)
  · rw [if_pos cd3] at hf
    refine xr_iconst C (v := 0) dX5_go_8 (by decide +kernel) ?_
    cases hf
    exact xr_zret C hlk hr (by decide +kernel) dX5_go_9
def f_X5_far (h0 : hp) (x1 : Int32) : Option Int32 := bR (f_X5_isOnRecord h0 x1) (fun rr2 => if rr2 = 0 then (some (-1)) else (gd (¬ (h0 0 0) = 0) (some (x1 - x1 / (h0 0 0) * (h0 0 0)))))
abbrev rmX5_far : Room := { frames := 1, cells := 0, slots := 0, locals := 21 }
set_option maxHeartbeats 4000000 in
set_option maxRecDepth 100000 in
theorem c_X5_far (l : Launch) (dC : Nat → ClassId) (dI : Nat → Nat → Nat) (cI cS : ClassId) (a : Nat → Nat) (hD : xD 95 a) (h0 : hp) (x1 : Int32) {r9 : Int32} (hf : f_X5_far h0 x1 = some r9) : XMi l yX5_far wsX5_far rmX5_far (dC, dI) vwCl (kty cI cS) 95 a (kcf cI cS a) h0 [.ref (a 0), .int x1] r9 h0 := by
  refine xm_i (cc := cX5_far) (maxL := 2) (ws' := wsX5_far.tail) (by decide) rfl hD (Nat.le_of_ble_eq_true rfl) [(0, .ref (a 0)), (1, .int x1)] rfl RX5 rfl ?_
  intro p e s m args below meth c C hlk hr
  have wl18 : Cond.fieldLink RX5 18 "RewindBox" "interval" "I" ∈ wsX5_far := by decide +kernel
  have wnX5 : ∀ w ∈ u_ws RX5 TX5 9, w ∈ wsX5_far := by decide +kernel
  unfold f_X5_far at hf
  refine xr_aload_n C dX5_far_0 0 rfl rfl ?_
  refine xr_iload_n C dX5_far_1 1 rfl rfl ?_
  obtain ⟨rr2, ee1, hf⟩ := bR_some hf
  refine xr_callVi C (Cn := RX5) 0 (by decide) rfl rfl [.int x1] [] (c_X5_isOnRecord l dC dI cI cS a hD h0 x1 ee1) (cwV 1 C.2.2.1 gX5_far_X5_isOnRecord rfl rfl rfl (by decide +kernel) ⟨Nat.le_of_ble_eq_true rfl, Nat.le_of_ble_eq_true rfl⟩) rfl rfl (Nat.le_of_ble_eq_true rfl) dX5_far_2 ?_
  refine xr_if_eq C 17 dX5_far_5 (by decide) (fun cd3 => ?_) (fun cd3 => ?_)
  · rw [if_pos cd3] at hf
    refine xr_iconst C (v := (-1)) dX5_far_17 (by decide +kernel) ?_
    cases hf
    exact xr_iret C hlk hr dX5_far_18
  · rw [if_neg cd3] at hf
    refine xr_iload_n C dX5_far_8 1 rfl rfl ?_
    refine xr_aload_n C dX5_far_9 0 rfl rfl ?_
    refine xr_get C (ci := 5) (Cn := RX5) (T := TX5) (N := 9) (v := .int (h0 0 0)) 0 (by decide) rfl rfl 0 (by decide) wnX5 wl18 rfl rfl dX5_far_10 ?_
    obtain ⟨gg4, hf⟩ := gd_some hf
    refine xr_irem C dX5_far_13 gg4 ?_
    refine xr_goto C 18 dX5_far_14 (by decide) ?_
    cases hf
    exact xr_iret C hlk hr dX5_far_18
end
section
def f_X5_cut (h : hp)  : Option (Int32 × hp) := if h 0 5 = 0 then (some ((-1), h)) else (bR (f_X1_countBefore (u2 h 0 8 (h 0 7)) (h 0 7)) (fun rr3 => gd (¬ (h 0 0) = 0) (bV (f_X4_keepFirst (u2 (u2 h 0 8 (h 0 7)) 7 3 rr3) (((h 0 7) / (h 0 0)) + 1)) (fun hh6 => some (hh6 7 3, hh6)))))
abbrev rmX5_cut : Room := { frames := 3, cells := 0, slots := 0, locals := 62 }
set_option maxHeartbeats 4000000 in
set_option maxRecDepth 100000 in
theorem c_X5_cut (l : Launch) (dC : Nat → ClassId) (dI : Nat → Nat → Nat) (cI cS : ClassId) (a : Nat → Nat) (hD : xD 95 a) (h : hp)  {r9 : Int32} {h9 : hp} (hf : f_X5_cut h  = some (r9, h9)) : XMi l yX5_cut wsX5_cut rmX5_cut (dC, dI) vwCl (kty cI cS) 95 a (kcf cI cS a) h [.ref (a 0)] r9 h9 := by
  refine xm_i (cc := cX5_cut) (maxL := 1) (ws' := wsX5_cut.tail) (by decide) rfl hD (Nat.le_of_ble_eq_true rfl) [(0, .ref (a 0))] rfl RX5 rfl ?_
  intro p e s m args below meth c C hlk hr
  have wl50 : Cond.fieldLink RX5 50 "RewindBox" "recording" "Z" ∈ wsX5_cut := by decide +kernel
  have wnX5 : ∀ w ∈ u_ws RX5 TX5 9, w ∈ wsX5_cut := by decide +kernel
  have wl78 : Cond.fieldLink RX5 78 "RewindBox" "now" "I" ∈ wsX5_cut := by decide +kernel
  have wl81 : Cond.fieldLink RX5 81 "RewindBox" "end" "I" ∈ wsX5_cut := by decide +kernel
  have wl39 : Cond.fieldLink RX5 39 "RewindBox" "entries" "LRewindBox$Log;" ∈ wsX5_cut := by decide +kernel
  have wl68 : Cond.fieldLink RX5 68 "RewindBox$Log" "count" "I" ∈ wsX5_cut := by decide +kernel
  have wnX1 : ∀ w ∈ u_ws RX1 TX1 4, w ∈ wsX5_cut := by decide +kernel
  have wl46 : Cond.fieldLink RX5 46 "RewindBox" "snapshots" "LRewindBox$Snapshots;" ∈ wsX5_cut := by decide +kernel
  have wl18 : Cond.fieldLink RX5 18 "RewindBox" "interval" "I" ∈ wsX5_cut := by decide +kernel
  unfold f_X5_cut at hf
  refine xr_aload_n C dX5_cut_0 0 rfl rfl ?_
  refine xr_get C (ci := 5) (Cn := RX5) (T := TX5) (N := 9) (v := .int (h 0 5)) 0 (by decide) rfl rfl 5 (by decide) wnX5 wl50 rfl rfl dX5_cut_1 ?_
  refine xr_if_ne C 9 dX5_cut_4 (by decide) (fun cd1 => ?_) (fun cd1 => ?_)
  · rw [if_neg cd1] at hf
    refine xr_aload_n C dX5_cut_9 0 rfl rfl ?_
    refine xr_aload_n C dX5_cut_10 0 rfl rfl ?_
    refine xr_get C (ci := 5) (Cn := RX5) (T := TX5) (N := 9) (v := .int (h 0 7)) 0 (by decide) rfl rfl 7 (by decide) wnX5 wl78 rfl rfl dX5_cut_11 ?_
    refine xr_put C (ci := 5) (Cn := RX5) (T := TX5) (N := 9) (ty := .int) (v := h 0 7) 0 (by decide) rfl rfl 8 (by decide) wnX5 wl81 rfl tyX5 tyX5_ok nmX5 rfl (by decide +kernel) rfl rfl (Nat.le_of_ble_eq_true rfl) rfl dX5_cut_14 ?_
    refine xr_aload_n C dX5_cut_17 0 rfl rfl ?_
    refine xr_get C (ci := 5) (Cn := RX5) (T := TX5) (N := 9) (v := .ref (a 7)) 0 (by decide) rfl rfl 3 (by decide) wnX5 wl39 rfl rfl dX5_cut_18 ?_
    refine xr_aload_n C dX5_cut_21 0 rfl rfl ?_
    refine xr_get C (ci := 5) (Cn := RX5) (T := TX5) (N := 9) (v := .ref (a 7)) 0 (by decide) rfl rfl 3 (by decide) wnX5 wl39 rfl rfl dX5_cut_22 ?_
    refine xr_aload_n C dX5_cut_25 0 rfl rfl ?_
    refine xr_get C (ci := 5) (Cn := RX5) (T := TX5) (N := 9) (v := .int (h 0 7)) 0 (by decide) rfl rfl 7 (by decide) wnX5 wl78 rfl rfl dX5_cut_26 ?_
    obtain ⟨rr3, ee2, hf⟩ := bR_some hf
    refine xr_callVi C (Cn := RX1) 7 (by decide) rfl rfl [.int (h 0 7)] [.ref (a 7)] (c_X1_countBefore l dC dI cI cS a hD (u2 h 0 8 (h 0 7)) (h 0 7) ee2) (cwV 1 C.2.2.1 gX5_cut_X1_countBefore rfl rfl rfl (by decide +kernel) ⟨Nat.le_of_ble_eq_true rfl, Nat.le_of_ble_eq_true rfl⟩) rfl rfl (Nat.le_of_ble_eq_true rfl) dX5_cut_29 ?_
    refine xr_put C (ci := 1) (Cn := RX1) (T := TX1) (N := 4) (ty := .int) (v := rr3) 7 (by decide) rfl rfl 3 (by decide) wnX1 wl68 rfl tyX1 tyX1_ok nmX1 rfl (by decide +kernel) rfl rfl (Nat.le_of_ble_eq_true rfl) rfl dX5_cut_32 ?_
    refine xr_aload_n C dX5_cut_35 0 rfl rfl ?_
    refine xr_get C (ci := 5) (Cn := RX5) (T := TX5) (N := 9) (v := .ref (a 11)) 0 (by decide) rfl rfl 4 (by decide) wnX5 wl46 rfl rfl dX5_cut_36 ?_
    refine xr_aload_n C dX5_cut_39 0 rfl rfl ?_
    refine xr_get C (ci := 5) (Cn := RX5) (T := TX5) (N := 9) (v := .int (h 0 7)) 0 (by decide) rfl rfl 7 (by decide) wnX5 wl78 rfl rfl dX5_cut_40 ?_
    refine xr_aload_n C dX5_cut_43 0 rfl rfl ?_
    refine xr_get C (ci := 5) (Cn := RX5) (T := TX5) (N := 9) (v := .int (h 0 0)) 0 (by decide) rfl rfl 0 (by decide) wnX5 wl18 rfl rfl dX5_cut_44 ?_
    obtain ⟨gg4, hf⟩ := gd_some hf
    refine xr_idiv C dX5_cut_47 gg4 ?_
    refine xr_iconst C (v := 1) dX5_cut_48 (by decide +kernel) ?_
    refine xr_iadd C dX5_cut_49 ?_
    obtain ⟨hh6, ee5, hf⟩ := bV_some hf
    refine xr_callVv C (Cn := RX4) 11 (by decide) rfl rfl [.int (((h 0 7) / (h 0 0)) + 1)] [] (c_X4_keepFirst l dC dI cI cS a hD (u2 (u2 h 0 8 (h 0 7)) 7 3 rr3) (((h 0 7) / (h 0 0)) + 1) ee5) (cwV 1 C.2.2.1 gX5_cut_X4_keepFirst rfl rfl rfl (by decide +kernel) ⟨Nat.le_of_ble_eq_true rfl, Nat.le_of_ble_eq_true rfl⟩) rfl rfl (Nat.le_of_ble_eq_true rfl) dX5_cut_50 ?_
    refine xr_aload_n C dX5_cut_53 0 rfl rfl ?_
    refine xr_get C (ci := 5) (Cn := RX5) (T := TX5) (N := 9) (v := .ref (a 7)) 0 (by decide) rfl rfl 3 (by decide) wnX5 wl39 rfl rfl dX5_cut_54 ?_
    refine xr_get C (ci := 1) (Cn := RX1) (T := TX1) (N := 4) (v := .int (hh6 7 3)) 7 (by decide) rfl rfl 3 (by decide) wnX1 wl68 rfl rfl dX5_cut_57 ?_
    cases hf
    exact xr_iret C hlk hr dX5_cut_60
  · rw [if_pos cd1] at hf
    refine xr_iconst C (v := (-1)) dX5_cut_7 (by decide +kernel) ?_
    cases hf
    exact xr_iret C hlk hr dX5_cut_8
def f_X5_record (h0 : hp) (x1 : Int32) : Option Int32 := if h0 0 5 = 0 then (some (-1)) else (if x1 = 0 then (some (h0 0 7)) else (if x1 = 1 then (some (h0 0 8)) else (if x1 = 2 then (some (h0 7 3)) else (if x1 = 3 then (some (h0 11 3)) else (if x1 = 4 then (some (h0 11 4)) else (if x1 = 5 then (some (h0 5 2)) else (if x1 = 6 then (if h0 0 6 = 0 then (some 0) else (some 1)) else (some (-1)))))))))
abbrev rmX5_record : Room := { frames := 0, cells := 0, slots := 0, locals := 0 }
set_option maxHeartbeats 4000000 in
set_option maxRecDepth 100000 in
theorem c_X5_record (l : Launch) (dC : Nat → ClassId) (dI : Nat → Nat → Nat) (cI cS : ClassId) (a : Nat → Nat) (hD : xD 95 a) (h0 : hp) (x1 : Int32) {r9 : Int32} (hf : f_X5_record h0 x1 = some r9) : XMi l yX5_record wsX5_record rmX5_record (dC, dI) vwCl (kty cI cS) 95 a (kcf cI cS a) h0 [.ref (a 0), .int x1] r9 h0 := by
  refine xm_i (cc := cX5_record) (maxL := 2) (ws' := wsX5_record.tail) (by decide) rfl hD (Nat.le_of_ble_eq_true rfl) [(0, .ref (a 0)), (1, .int x1)] rfl RX5 rfl ?_
  intro p e s m args below meth c C hlk hr
  have wl50 : Cond.fieldLink RX5 50 "RewindBox" "recording" "Z" ∈ wsX5_record := by decide +kernel
  have wnX5 : ∀ w ∈ u_ws RX5 TX5 9, w ∈ wsX5_record := by decide +kernel
  have wl78 : Cond.fieldLink RX5 78 "RewindBox" "now" "I" ∈ wsX5_record := by decide +kernel
  have wl81 : Cond.fieldLink RX5 81 "RewindBox" "end" "I" ∈ wsX5_record := by decide +kernel
  have wl39 : Cond.fieldLink RX5 39 "RewindBox" "entries" "LRewindBox$Log;" ∈ wsX5_record := by decide +kernel
  have wl68 : Cond.fieldLink RX5 68 "RewindBox$Log" "count" "I" ∈ wsX5_record := by decide +kernel
  have wnX1 : ∀ w ∈ u_ws RX1 TX1 4, w ∈ wsX5_record := by decide +kernel
  have wl46 : Cond.fieldLink RX5 46 "RewindBox" "snapshots" "LRewindBox$Snapshots;" ∈ wsX5_record := by decide +kernel
  have wl110 : Cond.fieldLink RX5 110 "RewindBox$Snapshots" "count" "I" ∈ wsX5_record := by decide +kernel
  have wnX4 : ∀ w ∈ u_ws RX4 TX4 5, w ∈ wsX5_record := by decide +kernel
  have wl111 : Cond.fieldLink RX5 111 "RewindBox$Snapshots" "pages" "I" ∈ wsX5_record := by decide +kernel
  have wl32 : Cond.fieldLink RX5 32 "RewindBox" "inputs" "LRewindBox$Inputs;" ∈ wsX5_record := by decide +kernel
  have wl84 : Cond.fieldLink RX5 84 "RewindBox$Inputs" "count" "I" ∈ wsX5_record := by decide +kernel
  have wnX0 : ∀ w ∈ u_ws RX0 TX0 3, w ∈ wsX5_record := by decide +kernel
  have wl75 : Cond.fieldLink RX5 75 "RewindBox" "ringCame" "Z" ∈ wsX5_record := by decide +kernel
  unfold f_X5_record at hf
  refine xr_aload_n C dX5_record_0 0 rfl rfl ?_
  refine xr_get C (ci := 5) (Cn := RX5) (T := TX5) (N := 9) (v := .int (h0 0 5)) 0 (by decide) rfl rfl 5 (by decide) wnX5 wl50 rfl rfl dX5_record_1 ?_
  refine xr_if_ne C 9 dX5_record_4 (by decide) (fun cd1 => ?_) (fun cd1 => ?_)
  · rw [if_neg cd1] at hf
    refine xr_iload_n C dX5_record_9 1 rfl rfl ?_
    by_cases cd2 : x1 = 0
    · rw [if_pos cd2] at hf
      refine xr_tableIn C 52 0 dX5_record_10 (by rw [cd2]; decide) (by decide) (by decide) rfl (by decide) ?_
      refine xr_aload_n C dX5_record_52 0 rfl rfl ?_
      refine xr_get C (ci := 5) (Cn := RX5) (T := TX5) (N := 9) (v := .int (h0 0 7)) 0 (by decide) rfl rfl 7 (by decide) wnX5 wl78 rfl rfl dX5_record_53 ?_
      cases hf
      exact xr_iret C hlk hr dX5_record_56
    rw [if_neg cd2] at hf
    by_cases cd3 : x1 = 1
    · rw [if_pos cd3] at hf
      refine xr_tableIn C 57 1 dX5_record_10 (by rw [cd3]; decide) (by decide) (by decide) rfl (by decide) ?_
      refine xr_aload_n C dX5_record_57 0 rfl rfl ?_
      refine xr_get C (ci := 5) (Cn := RX5) (T := TX5) (N := 9) (v := .int (h0 0 8)) 0 (by decide) rfl rfl 8 (by decide) wnX5 wl81 rfl rfl dX5_record_58 ?_
      cases hf
      exact xr_iret C hlk hr dX5_record_61
    rw [if_neg cd3] at hf
    by_cases cd4 : x1 = 2
    · rw [if_pos cd4] at hf
      refine xr_tableIn C 62 2 dX5_record_10 (by rw [cd4]; decide) (by decide) (by decide) rfl (by decide) ?_
      refine xr_aload_n C dX5_record_62 0 rfl rfl ?_
      refine xr_get C (ci := 5) (Cn := RX5) (T := TX5) (N := 9) (v := .ref (a 7)) 0 (by decide) rfl rfl 3 (by decide) wnX5 wl39 rfl rfl dX5_record_63 ?_
      refine xr_get C (ci := 1) (Cn := RX1) (T := TX1) (N := 4) (v := .int (h0 7 3)) 7 (by decide) rfl rfl 3 (by decide) wnX1 wl68 rfl rfl dX5_record_66 ?_
      cases hf
      exact xr_iret C hlk hr dX5_record_69
    rw [if_neg cd4] at hf
    by_cases cd5 : x1 = 3
    · rw [if_pos cd5] at hf
      refine xr_tableIn C 70 3 dX5_record_10 (by rw [cd5]; decide) (by decide) (by decide) rfl (by decide) ?_
      refine xr_aload_n C dX5_record_70 0 rfl rfl ?_
      refine xr_get C (ci := 5) (Cn := RX5) (T := TX5) (N := 9) (v := .ref (a 11)) 0 (by decide) rfl rfl 4 (by decide) wnX5 wl46 rfl rfl dX5_record_71 ?_
      refine xr_get C (ci := 4) (Cn := RX4) (T := TX4) (N := 5) (v := .int (h0 11 3)) 11 (by decide) rfl rfl 3 (by decide) wnX4 wl110 rfl rfl dX5_record_74 ?_
      cases hf
      exact xr_iret C hlk hr dX5_record_77
    rw [if_neg cd5] at hf
    by_cases cd6 : x1 = 4
    · rw [if_pos cd6] at hf
      refine xr_tableIn C 78 4 dX5_record_10 (by rw [cd6]; decide) (by decide) (by decide) rfl (by decide) ?_
      refine xr_aload_n C dX5_record_78 0 rfl rfl ?_
      refine xr_get C (ci := 5) (Cn := RX5) (T := TX5) (N := 9) (v := .ref (a 11)) 0 (by decide) rfl rfl 4 (by decide) wnX5 wl46 rfl rfl dX5_record_79 ?_
      refine xr_get C (ci := 4) (Cn := RX4) (T := TX4) (N := 5) (v := .int (h0 11 4)) 11 (by decide) rfl rfl 4 (by decide) wnX4 wl111 rfl rfl dX5_record_82 ?_
      cases hf
      exact xr_iret C hlk hr dX5_record_85
    rw [if_neg cd6] at hf
    by_cases cd7 : x1 = 5
    · rw [if_pos cd7] at hf
      refine xr_tableIn C 86 5 dX5_record_10 (by rw [cd7]; decide) (by decide) (by decide) rfl (by decide) ?_
      refine xr_aload_n C dX5_record_86 0 rfl rfl ?_
      refine xr_get C (ci := 5) (Cn := RX5) (T := TX5) (N := 9) (v := .ref (a 5)) 0 (by decide) rfl rfl 2 (by decide) wnX5 wl32 rfl rfl dX5_record_87 ?_
      refine xr_get C (ci := 0) (Cn := RX0) (T := TX0) (N := 3) (v := .int (h0 5 2)) 5 (by decide) rfl rfl 2 (by decide) wnX0 wl84 rfl rfl dX5_record_90 ?_
      cases hf
      exact xr_iret C hlk hr dX5_record_93
    rw [if_neg cd7] at hf
    by_cases cd8 : x1 = 6
    · rw [if_pos cd8] at hf
      refine xr_tableIn C 94 6 dX5_record_10 (by rw [cd8]; decide) (by decide) (by decide) rfl (by decide) ?_
      refine xr_aload_n C dX5_record_94 0 rfl rfl ?_
      refine xr_get C (ci := 5) (Cn := RX5) (T := TX5) (N := 9) (v := .int (h0 0 6)) 0 (by decide) rfl rfl 6 (by decide) wnX5 wl75 rfl rfl dX5_record_95 ?_
      refine xr_if_eq C 105 dX5_record_98 (by decide) (fun cd9 => ?_) (fun cd9 => ?_)
      · rw [if_pos cd9] at hf
        refine xr_iconst C (v := 0) dX5_record_105 (by decide +kernel) ?_
        cases hf
        exact xr_iret C hlk hr dX5_record_106
      · rw [if_neg cd9] at hf
        refine xr_iconst C (v := 1) dX5_record_101 (by decide +kernel) ?_
        refine xr_goto C 106 dX5_record_102 (by decide) ?_
        cases hf
        exact xr_iret C hlk hr dX5_record_106
    rw [if_neg cd8] at hf
    refine xr_tableOut C 107 dX5_record_10 (by have qcd2 := lv_neT cd2 (show Int32.toInt 0 = 0 from by decide); have qcd3 := lv_neT cd3 (show Int32.toInt 1 = 1 from by decide); have qcd4 := lv_neT cd4 (show Int32.toInt 2 = 2 from by decide); have qcd5 := lv_neT cd5 (show Int32.toInt 3 = 3 from by decide); have qcd6 := lv_neT cd6 (show Int32.toInt 4 = 4 from by decide); have qcd7 := lv_neT cd7 (show Int32.toInt 5 = 5 from by decide); have qcd8 := lv_neT cd8 (show Int32.toInt 6 = 6 from by decide); omega) (by decide) ?_
    refine xr_iconst C (v := (-1)) dX5_record_107 (by decide +kernel) ?_
    cases hf
    exact xr_iret C hlk hr dX5_record_108
  · rw [if_pos cd1] at hf
    refine xr_iconst C (v := (-1)) dX5_record_7 (by decide +kernel) ?_
    cases hf
    exact xr_iret C hlk hr dX5_record_8
def f_X5_pages (h0 : hp) (x1 : Int32) : Option Int32 := if h0 0 5 = 0 then (some (-1)) else (if x1 < 0 then (some (-1)) else (if x1 < h0 11 3 then (gd (¬ (x1 < 0 ∨ 40 ≤ x1.toNatClampNeg)) (bR (f_X3_pageCount h0 x1.toNatClampNeg) (fun rr7 => some rr7))) else (some (-1))))
abbrev rmX5_pages : Room := { frames := 2, cells := 0, slots := 0, locals := 40 }
set_option maxHeartbeats 4000000 in
set_option maxRecDepth 100000 in
theorem c_X5_pages (l : Launch) (dC : Nat → ClassId) (dI : Nat → Nat → Nat) (cI cS : ClassId) (a : Nat → Nat) (hD : xD 95 a) (h0 : hp) (x1 : Int32) {r9 : Int32} (hf : f_X5_pages h0 x1 = some r9) : XMi l yX5_pages wsX5_pages rmX5_pages (dC, dI) vwCl (kty cI cS) 95 a (kcf cI cS a) h0 [.ref (a 0), .int x1] r9 h0 := by
  refine xm_i (cc := cX5_pages) (maxL := 2) (ws' := wsX5_pages.tail) (by decide) rfl hD (Nat.le_of_ble_eq_true rfl) [(0, .ref (a 0)), (1, .int x1)] rfl RX5 rfl ?_
  intro p e s m args below meth c C hlk hr
  have wl50 : Cond.fieldLink RX5 50 "RewindBox" "recording" "Z" ∈ wsX5_pages := by decide +kernel
  have wnX5 : ∀ w ∈ u_ws RX5 TX5 9, w ∈ wsX5_pages := by decide +kernel
  have wl46 : Cond.fieldLink RX5 46 "RewindBox" "snapshots" "LRewindBox$Snapshots;" ∈ wsX5_pages := by decide +kernel
  have wl110 : Cond.fieldLink RX5 110 "RewindBox$Snapshots" "count" "I" ∈ wsX5_pages := by decide +kernel
  have wnX4 : ∀ w ∈ u_ws RX4 TX4 5, w ∈ wsX5_pages := by decide +kernel
  have wl114 : Cond.fieldLink RX5 114 "RewindBox$Snapshots" "row" "[LRewindBox$Snapshot;" ∈ wsX5_pages := by decide +kernel
  unfold f_X5_pages at hf
  refine xr_aload_n C dX5_pages_0 0 rfl rfl ?_
  refine xr_get C (ci := 5) (Cn := RX5) (T := TX5) (N := 9) (v := .int (h0 0 5)) 0 (by decide) rfl rfl 5 (by decide) wnX5 wl50 rfl rfl dX5_pages_1 ?_
  refine xr_if_eq C 22 dX5_pages_4 (by decide) (fun cd1 => ?_) (fun cd1 => ?_)
  · rw [if_pos cd1] at hf
    refine xr_iconst C (v := (-1)) dX5_pages_22 (by decide +kernel) ?_
    cases hf
    exact xr_iret C hlk hr dX5_pages_23
  · rw [if_neg cd1] at hf
    refine xr_iload_n C dX5_pages_7 1 rfl rfl ?_
    refine xr_if_lt C 22 dX5_pages_8 (by decide) (fun cd2 => ?_) (fun cd2 => ?_)
    · rw [if_pos cd2] at hf
      refine xr_iconst C (v := (-1)) dX5_pages_22 (by decide +kernel) ?_
      cases hf
      exact xr_iret C hlk hr dX5_pages_23
    · rw [if_neg cd2] at hf
      refine xr_iload_n C dX5_pages_11 1 rfl rfl ?_
      refine xr_aload_n C dX5_pages_12 0 rfl rfl ?_
      refine xr_get C (ci := 5) (Cn := RX5) (T := TX5) (N := 9) (v := .ref (a 11)) 0 (by decide) rfl rfl 4 (by decide) wnX5 wl46 rfl rfl dX5_pages_13 ?_
      refine xr_get C (ci := 4) (Cn := RX4) (T := TX4) (N := 5) (v := .int (h0 11 3)) 11 (by decide) rfl rfl 3 (by decide) wnX4 wl110 rfl rfl dX5_pages_16 ?_
      refine xr_icmp_lt C 24 dX5_pages_19 (by decide) (fun cd3 => ?_) (fun cd3 => ?_)
      · rw [if_pos cd3] at hf
        refine xr_aload_n C dX5_pages_24 0 rfl rfl ?_
        refine xr_get C (ci := 5) (Cn := RX5) (T := TX5) (N := 9) (v := .ref (a 11)) 0 (by decide) rfl rfl 4 (by decide) wnX5 wl46 rfl rfl dX5_pages_25 ?_
        refine xr_get C (ci := 4) (Cn := RX4) (T := TX4) (N := 5) (v := .ref (a 14)) 11 (by decide) rfl rfl 2 (by decide) wnX4 wl114 rfl rfl dX5_pages_28 ?_
        refine xr_iload_n C dX5_pages_31 1 rfl rfl ?_
        obtain ⟨gg4, hf⟩ := gd_some hf
        refine xr_aald C (f := fun k => some (a (k + 15))) 14 (by decide) 1 rfl rfl gg4 rfl dX5_pages_32 ?_
        have hkx1_toNatClampNeg := gd_lt gg4
        obtain ⟨rr7, ee6, hf⟩ := bR_some hf
        refine xr_callVi C (Cn := RX3) (x1.toNatClampNeg + 15) (kid_s hkx1_toNatClampNeg) (kcf_snap hkx1_toNatClampNeg) rfl [] [] (c_X3_pageCount l dC dI cI cS a hD h0 x1.toNatClampNeg hkx1_toNatClampNeg ee6) (cwV 0 C.2.2.1 gX5_pages_X3_pageCount rfl rfl rfl (by decide +kernel) ⟨Nat.le_of_ble_eq_true rfl, Nat.le_of_ble_eq_true rfl⟩) rfl rfl (Nat.le_of_ble_eq_true rfl) dX5_pages_33 ?_
        cases hf
        exact xr_iret C hlk hr dX5_pages_36
      · rw [if_neg cd3] at hf
        refine xr_iconst C (v := (-1)) dX5_pages_22 (by decide +kernel) ?_
        cases hf
        exact xr_iret C hlk hr dX5_pages_23
def f_X5_log (h0 : hp) (x1 : Int32) (x2 : Int32) : Option Int32 := if h0 0 5 = 0 then (some (-1)) else (if x1 < 0 then (some (-1)) else (if x1 < h0 7 3 then (if x2 = 0 then (gd (¬ (x1 < 0 ∨ 300 ≤ x1.toNatClampNeg)) (some (h0 8 x1.toNatClampNeg))) else (if x2 = 1 then (gd (¬ (x1 < 0 ∨ 300 ≤ x1.toNatClampNeg)) (some (h0 9 x1.toNatClampNeg))) else (if x2 = 2 then (gd (¬ (x1 < 0 ∨ 300 ≤ x1.toNatClampNeg)) (some (h0 10 x1.toNatClampNeg))) else (some (-1))))) else (some (-1))))
abbrev rmX5_log : Room := { frames := 0, cells := 0, slots := 0, locals := 0 }
set_option maxHeartbeats 4000000 in
set_option maxRecDepth 100000 in
theorem c_X5_log (l : Launch) (dC : Nat → ClassId) (dI : Nat → Nat → Nat) (cI cS : ClassId) (a : Nat → Nat) (hD : xD 95 a) (h0 : hp) (x1 : Int32) (x2 : Int32) {r9 : Int32} (hf : f_X5_log h0 x1 x2 = some r9) : XMi l yX5_log wsX5_log rmX5_log (dC, dI) vwCl (kty cI cS) 95 a (kcf cI cS a) h0 [.ref (a 0), .int x1, .int x2] r9 h0 := by
  refine xm_i (cc := cX5_log) (maxL := 3) (ws' := wsX5_log.tail) (by decide) rfl hD (Nat.le_of_ble_eq_true rfl) [(0, .ref (a 0)), (1, .int x1), (2, .int x2)] rfl RX5 rfl ?_
  intro p e s m args below meth c C hlk hr
  have wl50 : Cond.fieldLink RX5 50 "RewindBox" "recording" "Z" ∈ wsX5_log := by decide +kernel
  have wnX5 : ∀ w ∈ u_ws RX5 TX5 9, w ∈ wsX5_log := by decide +kernel
  have wl39 : Cond.fieldLink RX5 39 "RewindBox" "entries" "LRewindBox$Log;" ∈ wsX5_log := by decide +kernel
  have wl68 : Cond.fieldLink RX5 68 "RewindBox$Log" "count" "I" ∈ wsX5_log := by decide +kernel
  have wnX1 : ∀ w ∈ u_ws RX1 TX1 4, w ∈ wsX5_log := by decide +kernel
  have wl124 : Cond.fieldLink RX5 124 "RewindBox$Log" "positions" "[I" ∈ wsX5_log := by decide +kernel
  have wl127 : Cond.fieldLink RX5 127 "RewindBox$Log" "kinds" "[I" ∈ wsX5_log := by decide +kernel
  have wl130 : Cond.fieldLink RX5 130 "RewindBox$Log" "values" "[I" ∈ wsX5_log := by decide +kernel
  unfold f_X5_log at hf
  refine xr_aload_n C dX5_log_0 0 rfl rfl ?_
  refine xr_get C (ci := 5) (Cn := RX5) (T := TX5) (N := 9) (v := .int (h0 0 5)) 0 (by decide) rfl rfl 5 (by decide) wnX5 wl50 rfl rfl dX5_log_1 ?_
  refine xr_if_eq C 22 dX5_log_4 (by decide) (fun cd1 => ?_) (fun cd1 => ?_)
  · rw [if_pos cd1] at hf
    refine xr_iconst C (v := (-1)) dX5_log_22 (by decide +kernel) ?_
    cases hf
    exact xr_iret C hlk hr dX5_log_23
  · rw [if_neg cd1] at hf
    refine xr_iload_n C dX5_log_7 1 rfl rfl ?_
    refine xr_if_lt C 22 dX5_log_8 (by decide) (fun cd2 => ?_) (fun cd2 => ?_)
    · rw [if_pos cd2] at hf
      refine xr_iconst C (v := (-1)) dX5_log_22 (by decide +kernel) ?_
      cases hf
      exact xr_iret C hlk hr dX5_log_23
    · rw [if_neg cd2] at hf
      refine xr_iload_n C dX5_log_11 1 rfl rfl ?_
      refine xr_aload_n C dX5_log_12 0 rfl rfl ?_
      refine xr_get C (ci := 5) (Cn := RX5) (T := TX5) (N := 9) (v := .ref (a 7)) 0 (by decide) rfl rfl 3 (by decide) wnX5 wl39 rfl rfl dX5_log_13 ?_
      refine xr_get C (ci := 1) (Cn := RX1) (T := TX1) (N := 4) (v := .int (h0 7 3)) 7 (by decide) rfl rfl 3 (by decide) wnX1 wl68 rfl rfl dX5_log_16 ?_
      refine xr_icmp_lt C 24 dX5_log_19 (by decide) (fun cd3 => ?_) (fun cd3 => ?_)
      · rw [if_pos cd3] at hf
        refine xr_iload_n C dX5_log_24 2 rfl rfl ?_
        by_cases cd4 : x2 = 0
        · rw [if_pos cd4] at hf
          refine xr_tableIn C 52 0 dX5_log_25 (by rw [cd4]; decide) (by decide) (by decide) rfl (by decide) ?_
          refine xr_aload_n C dX5_log_52 0 rfl rfl ?_
          refine xr_get C (ci := 5) (Cn := RX5) (T := TX5) (N := 9) (v := .ref (a 7)) 0 (by decide) rfl rfl 3 (by decide) wnX5 wl39 rfl rfl dX5_log_53 ?_
          refine xr_get C (ci := 1) (Cn := RX1) (T := TX1) (N := 4) (v := .ref (a 8)) 7 (by decide) rfl rfl 0 (by decide) wnX1 wl124 rfl rfl dX5_log_56 ?_
          refine xr_iload_n C dX5_log_59 1 rfl rfl ?_
          obtain ⟨gg5, hf⟩ := gd_some hf
          refine xr_iald C (v := h0 8 x1.toNatClampNeg) 8 (by decide) 0 rfl rfl gg5 rfl dX5_log_60 ?_
          cases hf
          exact xr_iret C hlk hr dX5_log_61
        rw [if_neg cd4] at hf
        by_cases cd6 : x2 = 1
        · rw [if_pos cd6] at hf
          refine xr_tableIn C 62 1 dX5_log_25 (by rw [cd6]; decide) (by decide) (by decide) rfl (by decide) ?_
          refine xr_aload_n C dX5_log_62 0 rfl rfl ?_
          refine xr_get C (ci := 5) (Cn := RX5) (T := TX5) (N := 9) (v := .ref (a 7)) 0 (by decide) rfl rfl 3 (by decide) wnX5 wl39 rfl rfl dX5_log_63 ?_
          refine xr_get C (ci := 1) (Cn := RX1) (T := TX1) (N := 4) (v := .ref (a 9)) 7 (by decide) rfl rfl 1 (by decide) wnX1 wl127 rfl rfl dX5_log_66 ?_
          refine xr_iload_n C dX5_log_69 1 rfl rfl ?_
          obtain ⟨gg7, hf⟩ := gd_some hf
          refine xr_iald C (v := h0 9 x1.toNatClampNeg) 9 (by decide) 0 rfl rfl gg7 rfl dX5_log_70 ?_
          cases hf
          exact xr_iret C hlk hr dX5_log_71
        rw [if_neg cd6] at hf
        by_cases cd8 : x2 = 2
        · rw [if_pos cd8] at hf
          refine xr_tableIn C 72 2 dX5_log_25 (by rw [cd8]; decide) (by decide) (by decide) rfl (by decide) ?_
          refine xr_aload_n C dX5_log_72 0 rfl rfl ?_
          refine xr_get C (ci := 5) (Cn := RX5) (T := TX5) (N := 9) (v := .ref (a 7)) 0 (by decide) rfl rfl 3 (by decide) wnX5 wl39 rfl rfl dX5_log_73 ?_
          refine xr_get C (ci := 1) (Cn := RX1) (T := TX1) (N := 4) (v := .ref (a 10)) 7 (by decide) rfl rfl 2 (by decide) wnX1 wl130 rfl rfl dX5_log_76 ?_
          refine xr_iload_n C dX5_log_79 1 rfl rfl ?_
          obtain ⟨gg9, hf⟩ := gd_some hf
          refine xr_iald C (v := h0 10 x1.toNatClampNeg) 10 (by decide) 0 rfl rfl gg9 rfl dX5_log_80 ?_
          cases hf
          exact xr_iret C hlk hr dX5_log_81
        rw [if_neg cd8] at hf
        refine xr_tableOut C 82 dX5_log_25 (by have qcd4 := lv_neT cd4 (show Int32.toInt 0 = 0 from by decide); have qcd6 := lv_neT cd6 (show Int32.toInt 1 = 1 from by decide); have qcd8 := lv_neT cd8 (show Int32.toInt 2 = 2 from by decide); omega) (by decide) ?_
        refine xr_iconst C (v := (-1)) dX5_log_82 (by decide +kernel) ?_
        cases hf
        exact xr_iret C hlk hr dX5_log_83
      · rw [if_neg cd3] at hf
        refine xr_iconst C (v := (-1)) dX5_log_22 (by decide +kernel) ?_
        cases hf
        exact xr_iret C hlk hr dX5_log_23
def f_X5_register (h0 : hp) (x1 : Int32) : Option Int32 := if x1 < 0 then (if x1 = 8 then (some (h0 1 3)) else (if x1 = 9 then (some (h0 1 4)) else (if x1 = 10 then (if h0 1 5 = 0 then (some 0) else (some 1)) else (some 0)))) else (if 8 ≤ x1 then (if x1 = 8 then (some (h0 1 3)) else (if x1 = 9 then (some (h0 1 4)) else (if x1 = 10 then (if h0 1 5 = 0 then (some 0) else (some 1)) else (some 0)))) else (gd (¬ (x1 < 0 ∨ 8 ≤ x1.toNatClampNeg)) (some (h0 2 x1.toNatClampNeg))))
abbrev rmX5_register : Room := { frames := 0, cells := 0, slots := 0, locals := 0 }
set_option maxHeartbeats 4000000 in
set_option maxRecDepth 100000 in
theorem c_X5_register (l : Launch) (dC : Nat → ClassId) (dI : Nat → Nat → Nat) (cI cS : ClassId) (a : Nat → Nat) (hD : xD 95 a) (h0 : hp) (x1 : Int32) {r9 : Int32} (hf : f_X5_register h0 x1 = some r9) : XMi l yX5_register wsX5_register rmX5_register (dC, dI) vwCl (kty cI cS) 95 a (kcf cI cS a) h0 [.ref (a 0), .int x1] r9 h0 := by
  refine xm_i (cc := cX5_register) (maxL := 2) (ws' := wsX5_register.tail) (by decide) rfl hD (Nat.le_of_ble_eq_true rfl) [(0, .ref (a 0)), (1, .int x1)] rfl RX5 rfl ?_
  intro p e s m args below meth c C hlk hr
  have wl25 : Cond.fieldLink RX5 25 "RewindBox" "machine" "LRewindBox$Machine;" ∈ wsX5_register := by decide +kernel
  have wnX5 : ∀ w ∈ u_ws RX5 TX5 9, w ∈ wsX5_register := by decide +kernel
  have wl136 : Cond.fieldLink RX5 136 "RewindBox$Machine" "pc" "I" ∈ wsX5_register := by decide +kernel
  have wnX2 : ∀ w ∈ u_ws RX2 TX2 8, w ∈ wsX5_register := by decide +kernel
  have wl139 : Cond.fieldLink RX5 139 "RewindBox$Machine" "back" "I" ∈ wsX5_register := by decide +kernel
  have wl142 : Cond.fieldLink RX5 142 "RewindBox$Machine" "open" "Z" ∈ wsX5_register := by decide +kernel
  have wl133 : Cond.fieldLink RX5 133 "RewindBox$Machine" "registers" "[I" ∈ wsX5_register := by decide +kernel
  unfold f_X5_register at hf
  refine xr_iload_n C dX5_register_0 1 rfl rfl ?_
  refine xr_if_lt C 20 dX5_register_1 (by decide) (fun cd1 => ?_) (fun cd1 => ?_)
  · rw [if_pos cd1] at hf
    refine xr_iload_n C dX5_register_20 1 rfl rfl ?_
    by_cases cd2 : x1 = 8
    · rw [if_pos cd2] at hf
      refine xr_tableIn C 48 8 dX5_register_21 (by rw [cd2]; decide) (by decide) (by decide) rfl (by decide) ?_
      refine xr_aload_n C dX5_register_48 0 rfl rfl ?_
      refine xr_get C (ci := 5) (Cn := RX5) (T := TX5) (N := 9) (v := .ref (a 1)) 0 (by decide) rfl rfl 1 (by decide) wnX5 wl25 rfl rfl dX5_register_49 ?_
      refine xr_get C (ci := 2) (Cn := RX2) (T := TX2) (N := 8) (v := .int (h0 1 3)) 1 (by decide) rfl rfl 3 (by decide) wnX2 wl136 rfl rfl dX5_register_52 ?_
      cases hf
      exact xr_iret C hlk hr dX5_register_55
    rw [if_neg cd2] at hf
    by_cases cd3 : x1 = 9
    · rw [if_pos cd3] at hf
      refine xr_tableIn C 56 9 dX5_register_21 (by rw [cd3]; decide) (by decide) (by decide) rfl (by decide) ?_
      refine xr_aload_n C dX5_register_56 0 rfl rfl ?_
      refine xr_get C (ci := 5) (Cn := RX5) (T := TX5) (N := 9) (v := .ref (a 1)) 0 (by decide) rfl rfl 1 (by decide) wnX5 wl25 rfl rfl dX5_register_57 ?_
      refine xr_get C (ci := 2) (Cn := RX2) (T := TX2) (N := 8) (v := .int (h0 1 4)) 1 (by decide) rfl rfl 4 (by decide) wnX2 wl139 rfl rfl dX5_register_60 ?_
      cases hf
      exact xr_iret C hlk hr dX5_register_63
    rw [if_neg cd3] at hf
    by_cases cd4 : x1 = 10
    · rw [if_pos cd4] at hf
      refine xr_tableIn C 64 10 dX5_register_21 (by rw [cd4]; decide) (by decide) (by decide) rfl (by decide) ?_
      refine xr_aload_n C dX5_register_64 0 rfl rfl ?_
      refine xr_get C (ci := 5) (Cn := RX5) (T := TX5) (N := 9) (v := .ref (a 1)) 0 (by decide) rfl rfl 1 (by decide) wnX5 wl25 rfl rfl dX5_register_65 ?_
      refine xr_get C (ci := 2) (Cn := RX2) (T := TX2) (N := 8) (v := .int (h0 1 5)) 1 (by decide) rfl rfl 5 (by decide) wnX2 wl142 rfl rfl dX5_register_68 ?_
      refine xr_if_eq C 78 dX5_register_71 (by decide) (fun cd5 => ?_) (fun cd5 => ?_)
      · rw [if_pos cd5] at hf
        refine xr_iconst C (v := 0) dX5_register_78 (by decide +kernel) ?_
        cases hf
        exact xr_iret C hlk hr dX5_register_79
      · rw [if_neg cd5] at hf
        refine xr_iconst C (v := 1) dX5_register_74 (by decide +kernel) ?_
        refine xr_goto C 79 dX5_register_75 (by decide) ?_
        cases hf
        exact xr_iret C hlk hr dX5_register_79
    rw [if_neg cd4] at hf
    refine xr_tableOut C 80 dX5_register_21 (by have qcd2 := lv_neT cd2 (show Int32.toInt 8 = 8 from by decide); have qcd3 := lv_neT cd3 (show Int32.toInt 9 = 9 from by decide); have qcd4 := lv_neT cd4 (show Int32.toInt 10 = 10 from by decide); omega) (by decide) ?_
    refine xr_iconst C (v := 0) dX5_register_80 (by decide +kernel) ?_
    cases hf
    exact xr_iret C hlk hr dX5_register_81
  · rw [if_neg cd1] at hf
    refine xr_iload_n C dX5_register_4 1 rfl rfl ?_
    refine xr_bipush C (v := 8) dX5_register_5 (by decide +kernel) ?_
    refine xr_icmp_ge C 20 dX5_register_7 (by decide) (fun cd6 => ?_) (fun cd6 => ?_)
    · rw [if_pos cd6] at hf
      refine xr_iload_n C dX5_register_20 1 rfl rfl ?_
      by_cases cd7 : x1 = 8
      · rw [if_pos cd7] at hf
        refine xr_tableIn C 48 8 dX5_register_21 (by rw [cd7]; decide) (by decide) (by decide) rfl (by decide) ?_
        refine xr_aload_n C dX5_register_48 0 rfl rfl ?_
        refine xr_get C (ci := 5) (Cn := RX5) (T := TX5) (N := 9) (v := .ref (a 1)) 0 (by decide) rfl rfl 1 (by decide) wnX5 wl25 rfl rfl dX5_register_49 ?_
        refine xr_get C (ci := 2) (Cn := RX2) (T := TX2) (N := 8) (v := .int (h0 1 3)) 1 (by decide) rfl rfl 3 (by decide) wnX2 wl136 rfl rfl dX5_register_52 ?_
        cases hf
        exact xr_iret C hlk hr dX5_register_55
      rw [if_neg cd7] at hf
      by_cases cd8 : x1 = 9
      · rw [if_pos cd8] at hf
        refine xr_tableIn C 56 9 dX5_register_21 (by rw [cd8]; decide) (by decide) (by decide) rfl (by decide) ?_
        refine xr_aload_n C dX5_register_56 0 rfl rfl ?_
        refine xr_get C (ci := 5) (Cn := RX5) (T := TX5) (N := 9) (v := .ref (a 1)) 0 (by decide) rfl rfl 1 (by decide) wnX5 wl25 rfl rfl dX5_register_57 ?_
        refine xr_get C (ci := 2) (Cn := RX2) (T := TX2) (N := 8) (v := .int (h0 1 4)) 1 (by decide) rfl rfl 4 (by decide) wnX2 wl139 rfl rfl dX5_register_60 ?_
        cases hf
        exact xr_iret C hlk hr dX5_register_63
      rw [if_neg cd8] at hf
      by_cases cd9 : x1 = 10
      · rw [if_pos cd9] at hf
        refine xr_tableIn C 64 10 dX5_register_21 (by rw [cd9]; decide) (by decide) (by decide) rfl (by decide) ?_
        refine xr_aload_n C dX5_register_64 0 rfl rfl ?_
        refine xr_get C (ci := 5) (Cn := RX5) (T := TX5) (N := 9) (v := .ref (a 1)) 0 (by decide) rfl rfl 1 (by decide) wnX5 wl25 rfl rfl dX5_register_65 ?_
        refine xr_get C (ci := 2) (Cn := RX2) (T := TX2) (N := 8) (v := .int (h0 1 5)) 1 (by decide) rfl rfl 5 (by decide) wnX2 wl142 rfl rfl dX5_register_68 ?_
        refine xr_if_eq C 78 dX5_register_71 (by decide) (fun cd10 => ?_) (fun cd10 => ?_)
        · rw [if_pos cd10] at hf
          refine xr_iconst C (v := 0) dX5_register_78 (by decide +kernel) ?_
          cases hf
          exact xr_iret C hlk hr dX5_register_79
        · rw [if_neg cd10] at hf
          refine xr_iconst C (v := 1) dX5_register_74 (by decide +kernel) ?_
          refine xr_goto C 79 dX5_register_75 (by decide) ?_
          cases hf
          exact xr_iret C hlk hr dX5_register_79
      rw [if_neg cd9] at hf
      refine xr_tableOut C 80 dX5_register_21 (by have qcd7 := lv_neT cd7 (show Int32.toInt 8 = 8 from by decide); have qcd8 := lv_neT cd8 (show Int32.toInt 9 = 9 from by decide); have qcd9 := lv_neT cd9 (show Int32.toInt 10 = 10 from by decide); omega) (by decide) ?_
      refine xr_iconst C (v := 0) dX5_register_80 (by decide +kernel) ?_
      cases hf
      exact xr_iret C hlk hr dX5_register_81
    · rw [if_neg cd6] at hf
      refine xr_aload_n C dX5_register_10 0 rfl rfl ?_
      refine xr_get C (ci := 5) (Cn := RX5) (T := TX5) (N := 9) (v := .ref (a 1)) 0 (by decide) rfl rfl 1 (by decide) wnX5 wl25 rfl rfl dX5_register_11 ?_
      refine xr_get C (ci := 2) (Cn := RX2) (T := TX2) (N := 8) (v := .ref (a 2)) 1 (by decide) rfl rfl 0 (by decide) wnX2 wl133 rfl rfl dX5_register_14 ?_
      refine xr_iload_n C dX5_register_17 1 rfl rfl ?_
      obtain ⟨gg11, hf⟩ := gd_some hf
      refine xr_iald C (v := h0 2 x1.toNatClampNeg) 2 (by decide) 0 rfl rfl gg11 rfl dX5_register_18 ?_
      cases hf
      exact xr_iret C hlk hr dX5_register_19
def f_X5_word (h0 : hp) (x1 : Int32) : Option Int32 := if (f_X5_isPlace x1) = 0 then (some 0) else (gd (¬ (x1 < 0 ∨ 512 ≤ x1.toNatClampNeg)) (some (h0 3 x1.toNatClampNeg)))
abbrev rmX5_word : Room := { frames := 1, cells := 0, slots := 0, locals := 20 }
set_option maxHeartbeats 4000000 in
set_option maxRecDepth 100000 in
theorem c_X5_word (l : Launch) (dC : Nat → ClassId) (dI : Nat → Nat → Nat) (cI cS : ClassId) (a : Nat → Nat) (hD : xD 95 a) (h0 : hp) (x1 : Int32) {r9 : Int32} (hf : f_X5_word h0 x1 = some r9) : XMi l yX5_word wsX5_word rmX5_word (dC, dI) vwCl (kty cI cS) 95 a (kcf cI cS a) h0 [.ref (a 0), .int x1] r9 h0 := by
  refine xm_i (cc := cX5_word) (maxL := 2) (ws' := wsX5_word.tail) (by decide) rfl hD (Nat.le_of_ble_eq_true rfl) [(0, .ref (a 0)), (1, .int x1)] rfl RX5 rfl ?_
  intro p e s m args below meth c C hlk hr
  have wl25 : Cond.fieldLink RX5 25 "RewindBox" "machine" "LRewindBox$Machine;" ∈ wsX5_word := by decide +kernel
  have wnX5 : ∀ w ∈ u_ws RX5 TX5 9, w ∈ wsX5_word := by decide +kernel
  have wl58 : Cond.fieldLink RX5 58 "RewindBox$Machine" "memory" "[I" ∈ wsX5_word := by decide +kernel
  have wnX2 : ∀ w ∈ u_ws RX2 TX2 8, w ∈ wsX5_word := by decide +kernel
  unfold f_X5_word at hf
  refine xr_iload_n C dX5_word_0 1 rfl rfl ?_
  refine xr_callSi C [.int x1] [] (c_X5_isPlace l dC dI cI cS a hD h0 x1 rfl) (va_cwS 1 C.2.2.1 gX5_word_X5_isPlace rfl rfl rfl (by decide +kernel) ⟨Nat.le_of_ble_eq_true rfl, Nat.le_of_ble_eq_true rfl⟩) rfl rfl (Nat.le_of_ble_eq_true rfl) dX5_word_1 ?_
  refine xr_if_eq C 19 dX5_word_4 (by decide) (fun cd1 => ?_) (fun cd1 => ?_)
  · rw [if_pos cd1] at hf
    refine xr_iconst C (v := 0) dX5_word_19 (by decide +kernel) ?_
    cases hf
    exact xr_iret C hlk hr dX5_word_20
  · rw [if_neg cd1] at hf
    refine xr_aload_n C dX5_word_7 0 rfl rfl ?_
    refine xr_get C (ci := 5) (Cn := RX5) (T := TX5) (N := 9) (v := .ref (a 1)) 0 (by decide) rfl rfl 1 (by decide) wnX5 wl25 rfl rfl dX5_word_8 ?_
    refine xr_get C (ci := 2) (Cn := RX2) (T := TX2) (N := 8) (v := .ref (a 3)) 1 (by decide) rfl rfl 1 (by decide) wnX2 wl58 rfl rfl dX5_word_11 ?_
    refine xr_iload_n C dX5_word_14 1 rfl rfl ?_
    obtain ⟨gg2, hf⟩ := gd_some hf
    refine xr_iald C (v := h0 3 x1.toNatClampNeg) 3 (by decide) 0 rfl rfl gg2 rfl dX5_word_15 ?_
    refine xr_goto C 20 dX5_word_16 (by decide) ?_
    cases hf
    exact xr_iret C hlk hr dX5_word_20
def f_X5_outs (h0 : hp)  : Option Int32 := some (h0 1 6)
abbrev rmX5_outs : Room := { frames := 0, cells := 0, slots := 0, locals := 0 }
set_option maxHeartbeats 4000000 in
set_option maxRecDepth 100000 in
theorem c_X5_outs (l : Launch) (dC : Nat → ClassId) (dI : Nat → Nat → Nat) (cI cS : ClassId) (a : Nat → Nat) (hD : xD 95 a) (h0 : hp)  {r9 : Int32} (hf : f_X5_outs h0  = some r9) : XMi l yX5_outs wsX5_outs rmX5_outs (dC, dI) vwCl (kty cI cS) 95 a (kcf cI cS a) h0 [.ref (a 0)] r9 h0 := by
  refine xm_i (cc := cX5_outs) (maxL := 1) (ws' := wsX5_outs.tail) (by decide) rfl hD (Nat.le_of_ble_eq_true rfl) [(0, .ref (a 0))] rfl RX5 rfl ?_
  intro p e s m args below meth c C hlk hr
  have wl25 : Cond.fieldLink RX5 25 "RewindBox" "machine" "LRewindBox$Machine;" ∈ wsX5_outs := by decide +kernel
  have wnX5 : ∀ w ∈ u_ws RX5 TX5 9, w ∈ wsX5_outs := by decide +kernel
  have wl145 : Cond.fieldLink RX5 145 "RewindBox$Machine" "outCount" "I" ∈ wsX5_outs := by decide +kernel
  have wnX2 : ∀ w ∈ u_ws RX2 TX2 8, w ∈ wsX5_outs := by decide +kernel
  unfold f_X5_outs at hf
  refine xr_aload_n C dX5_outs_0 0 rfl rfl ?_
  refine xr_get C (ci := 5) (Cn := RX5) (T := TX5) (N := 9) (v := .ref (a 1)) 0 (by decide) rfl rfl 1 (by decide) wnX5 wl25 rfl rfl dX5_outs_1 ?_
  refine xr_get C (ci := 2) (Cn := RX2) (T := TX2) (N := 8) (v := .int (h0 1 6)) 1 (by decide) rfl rfl 6 (by decide) wnX2 wl145 rfl rfl dX5_outs_4 ?_
  cases hf
  exact xr_iret C hlk hr dX5_outs_7
def f_X5_out (h0 : hp) (x1 : Int32) : Option Int32 := if x1 < 0 then (some 0) else (if h0 1 6 ≤ x1 then (some 0) else (if x1 < 64 then (gd (¬ (x1 < 0 ∨ 64 ≤ x1.toNatClampNeg)) (some (h0 4 x1.toNatClampNeg))) else (some 0)))
abbrev rmX5_out : Room := { frames := 0, cells := 0, slots := 0, locals := 0 }
set_option maxHeartbeats 4000000 in
set_option maxRecDepth 100000 in
theorem c_X5_out (l : Launch) (dC : Nat → ClassId) (dI : Nat → Nat → Nat) (cI cS : ClassId) (a : Nat → Nat) (hD : xD 95 a) (h0 : hp) (x1 : Int32) {r9 : Int32} (hf : f_X5_out h0 x1 = some r9) : XMi l yX5_out wsX5_out rmX5_out (dC, dI) vwCl (kty cI cS) 95 a (kcf cI cS a) h0 [.ref (a 0), .int x1] r9 h0 := by
  refine xm_i (cc := cX5_out) (maxL := 2) (ws' := wsX5_out.tail) (by decide) rfl hD (Nat.le_of_ble_eq_true rfl) [(0, .ref (a 0)), (1, .int x1)] rfl RX5 rfl ?_
  intro p e s m args below meth c C hlk hr
  have wl25 : Cond.fieldLink RX5 25 "RewindBox" "machine" "LRewindBox$Machine;" ∈ wsX5_out := by decide +kernel
  have wnX5 : ∀ w ∈ u_ws RX5 TX5 9, w ∈ wsX5_out := by decide +kernel
  have wl145 : Cond.fieldLink RX5 145 "RewindBox$Machine" "outCount" "I" ∈ wsX5_out := by decide +kernel
  have wnX2 : ∀ w ∈ u_ws RX2 TX2 8, w ∈ wsX5_out := by decide +kernel
  have wl148 : Cond.fieldLink RX5 148 "RewindBox$Machine" "keptOuts" "[I" ∈ wsX5_out := by decide +kernel
  unfold f_X5_out at hf
  refine xr_iload_n C dX5_out_0 1 rfl rfl ?_
  refine xr_if_lt C 21 dX5_out_1 (by decide) (fun cd1 => ?_) (fun cd1 => ?_)
  · rw [if_pos cd1] at hf
    refine xr_iconst C (v := 0) dX5_out_21 (by decide +kernel) ?_
    cases hf
    exact xr_iret C hlk hr dX5_out_22
  · rw [if_neg cd1] at hf
    refine xr_iload_n C dX5_out_4 1 rfl rfl ?_
    refine xr_aload_n C dX5_out_5 0 rfl rfl ?_
    refine xr_get C (ci := 5) (Cn := RX5) (T := TX5) (N := 9) (v := .ref (a 1)) 0 (by decide) rfl rfl 1 (by decide) wnX5 wl25 rfl rfl dX5_out_6 ?_
    refine xr_get C (ci := 2) (Cn := RX2) (T := TX2) (N := 8) (v := .int (h0 1 6)) 1 (by decide) rfl rfl 6 (by decide) wnX2 wl145 rfl rfl dX5_out_9 ?_
    refine xr_icmp_ge C 21 dX5_out_12 (by decide) (fun cd2 => ?_) (fun cd2 => ?_)
    · rw [if_pos cd2] at hf
      refine xr_iconst C (v := 0) dX5_out_21 (by decide +kernel) ?_
      cases hf
      exact xr_iret C hlk hr dX5_out_22
    · rw [if_neg cd2] at hf
      refine xr_iload_n C dX5_out_15 1 rfl rfl ?_
      refine xr_bipush C (v := 64) dX5_out_16 (by decide +kernel) ?_
      refine xr_icmp_lt C 23 dX5_out_18 (by decide) (fun cd3 => ?_) (fun cd3 => ?_)
      · rw [if_pos cd3] at hf
        refine xr_aload_n C dX5_out_23 0 rfl rfl ?_
        refine xr_get C (ci := 5) (Cn := RX5) (T := TX5) (N := 9) (v := .ref (a 1)) 0 (by decide) rfl rfl 1 (by decide) wnX5 wl25 rfl rfl dX5_out_24 ?_
        refine xr_get C (ci := 2) (Cn := RX2) (T := TX2) (N := 8) (v := .ref (a 4)) 1 (by decide) rfl rfl 2 (by decide) wnX2 wl148 rfl rfl dX5_out_27 ?_
        refine xr_iload_n C dX5_out_30 1 rfl rfl ?_
        obtain ⟨gg4, hf⟩ := gd_some hf
        refine xr_iald C (v := h0 4 x1.toNatClampNeg) 4 (by decide) 0 rfl rfl gg4 rfl dX5_out_31 ?_
        cases hf
        exact xr_iret C hlk hr dX5_out_32
      · rw [if_neg cd3] at hf
        refine xr_iconst C (v := 0) dX5_out_21 (by decide +kernel) ?_
        cases hf
        exact xr_iret C hlk hr dX5_out_22
end
section
def f_X6_isPlace (x0 : Int32) : Int32 := if x0 < 0 then ((0 : Int32)) else (if 512 ≤ x0 then ((0 : Int32)) else ((1 : Int32)))
abbrev rmX6_isPlace : Room := { frames := 0, cells := 0, slots := 0, locals := 0 }
set_option maxHeartbeats 4000000 in
set_option maxRecDepth 100000 in
theorem c_X6_isPlace (l : Launch) (dC : Nat → ClassId) (dI : Nat → Nat → Nat) (cI cZ : ClassId) (a : Nat → Nat) (hD : xD 11 a) (h0 : hp) (x0 : Int32) {r9 : Int32} (hf : f_X6_isPlace x0 = r9) : XMi l yX6_isPlace wsX6_isPlace rmX6_isPlace (dC, dI) vwCl (mty cI cZ) 11 a (mcf cI cZ a) h0 [.int x0] r9 h0 := by
  refine xm_i (cc := cX6_isPlace) (maxL := 1) (ws' := wsX6_isPlace.tail) (by decide) rfl hD (Nat.le_of_ble_eq_true rfl) [(0, .int x0)] rfl RX6 rfl ?_
  intro p e s m args below meth c C hlk hr
  unfold f_X6_isPlace at hf
  refine xr_iload_n C dX6_isPlace_0 0 rfl rfl ?_
  refine xr_if_lt C 15 dX6_isPlace_1 (by decide) (fun cd1 => ?_) (fun cd1 => ?_)
  · rw [if_pos cd1] at hf
    refine xr_iconst C (v := 0) dX6_isPlace_15 (by decide +kernel) ?_
    subst hf
    exact xr_zret C hlk hr (by decide +kernel) dX6_isPlace_16
  · rw [if_neg cd1] at hf
    refine xr_iload_n C dX6_isPlace_4 0 rfl rfl ?_
    refine xr_sipush C (v := 512) dX6_isPlace_5 (by decide +kernel) ?_
    refine xr_icmp_ge C 15 dX6_isPlace_8 (by decide) (fun cd2 => ?_) (fun cd2 => ?_)
    · rw [if_pos cd2] at hf
      refine xr_iconst C (v := 0) dX6_isPlace_15 (by decide +kernel) ?_
      subst hf
      exact xr_zret C hlk hr (by decide +kernel) dX6_isPlace_16
    · rw [if_neg cd2] at hf
      refine xr_iconst C (v := 1) dX6_isPlace_11 (by decide +kernel) ?_
      refine xr_goto C 16 dX6_isPlace_12 (by decide) ?_
      subst hf
      exact xr_zret C hlk hr (by decide +kernel) dX6_isPlace_16
def f_X6_poke (h : hp) (x1 : Int32) (x2 : Int32) : Option (Int32 × hp) := if h 0 9 = 0 then (if (f_X6_isPlace x1) = 0 then (some (0, h)) else (gd (¬ (x1 < 0 ∨ 512 ≤ x1.toNatClampNeg)) (some (1, (u2 h 2 x1.toNatClampNeg x2))))) else (some (0, h))
abbrev rmX6_poke : Room := { frames := 1, cells := 0, slots := 0, locals := 20 }
set_option maxHeartbeats 4000000 in
set_option maxRecDepth 100000 in
theorem c_X6_poke (l : Launch) (dC : Nat → ClassId) (dI : Nat → Nat → Nat) (cI cZ : ClassId) (a : Nat → Nat) (hD : xD 11 a) (h : hp) (x1 : Int32) (x2 : Int32) {r9 : Int32} {h9 : hp} (hf : f_X6_poke h x1 x2 = some (r9, h9)) : XMi l yX6_poke wsX6_poke rmX6_poke (dC, dI) vwCl (mty cI cZ) 11 a (mcf cI cZ a) h [.ref (a 0), .int x1, .int x2] r9 h9 := by
  refine xm_i (cc := cX6_poke) (maxL := 3) (ws' := wsX6_poke.tail) (by decide) rfl hD (Nat.le_of_ble_eq_true rfl) [(0, .ref (a 0)), (1, .int x1), (2, .int x2)] rfl RX6 rfl ?_
  intro p e s m args below meth c C hlk hr
  have wl45 : Cond.fieldLink RX6 45 "RewindBoxModel" "records" "Z" ∈ wsX6_poke := by decide +kernel
  have wnX6 : ∀ w ∈ u_ws RX6 TX6 23, w ∈ wsX6_poke := by decide +kernel
  have wl13 : Cond.fieldLink RX6 13 "RewindBoxModel" "memory" "[I" ∈ wsX6_poke := by decide +kernel
  unfold f_X6_poke at hf
  refine xr_aload_n C dX6_poke_0 0 rfl rfl ?_
  refine xr_get C (ci := 6) (Cn := RX6) (T := TX6) (N := 23) (v := .int (h 0 9)) 0 (by decide) rfl rfl 9 (by decide) wnX6 wl45 rfl rfl dX6_poke_1 ?_
  refine xr_if_ne C 14 dX6_poke_4 (by decide) (fun cd1 => ?_) (fun cd1 => ?_)
  · rw [if_neg cd1] at hf
    refine xr_iconst C (v := 0) dX6_poke_14 (by decide +kernel) ?_
    cases hf
    exact xr_zret C hlk hr (by decide +kernel) dX6_poke_15
  · rw [if_pos cd1] at hf
    refine xr_iload_n C dX6_poke_7 1 rfl rfl ?_
    refine xr_callSi C [.int x1] [] (c_X6_isPlace l dC dI cI cZ a hD h x1 rfl) (va_cwS 1 C.2.2.1 gX6_poke_X6_isPlace rfl rfl rfl (by decide +kernel) ⟨Nat.le_of_ble_eq_true rfl, Nat.le_of_ble_eq_true rfl⟩) rfl rfl (Nat.le_of_ble_eq_true rfl) dX6_poke_8 ?_
    refine xr_if_ne C 16 dX6_poke_11 (by decide) (fun cd2 => ?_) (fun cd2 => ?_)
    · rw [if_neg cd2] at hf
      refine xr_aload_n C dX6_poke_16 0 rfl rfl ?_
      refine xr_get C (ci := 6) (Cn := RX6) (T := TX6) (N := 23) (v := .ref (a 2)) 0 (by decide) rfl rfl 2 (by decide) wnX6 wl13 rfl rfl dX6_poke_17 ?_
      refine xr_iload_n C dX6_poke_20 1 rfl rfl ?_
      refine xr_iload_n C dX6_poke_21 2 rfl rfl ?_
      obtain ⟨gg3, hf⟩ := gd_some hf
      refine xr_iast C 2 (by decide) 0 (fun _ => rfl) rfl gg3 dX6_poke_22 ?_
      refine xr_iconst C (v := 1) dX6_poke_23 (by decide +kernel) ?_
      cases hf
      exact xr_zret C hlk hr (by decide +kernel) dX6_poke_24
    · rw [if_pos cd2] at hf
      refine xr_iconst C (v := 0) dX6_poke_14 (by decide +kernel) ?_
      cases hf
      exact xr_zret C hlk hr (by decide +kernel) dX6_poke_15
def f_X6_rewind_50 : Nat → hp → Int32 → Option hp
  | 0, _, _ => none
  | n + 1, h, x1 => if 32 ≤ x1 then (some (u2 (u2 (u2 (u2 (u2 (u2 h 0 4 0) 0 5 0) 0 6 0) 0 8 0) 0 10 0) 0 16 0)) else (gd (¬ (x1 < 0 ∨ 32 ≤ x1.toNatClampNeg)) (f_X6_rewind_50 n (u2 h 9 x1.toNatClampNeg 0) (x1 + 1)))
def f_X6_rewind_29 : Nat → hp → Int32 → Option hp
  | 0, _, _ => none
  | n + 1, h, x1 => if 8 ≤ x1 then (f_X6_rewind_50 1000 h 0) else (gd (¬ (x1 < 0 ∨ 8 ≤ x1.toNatClampNeg)) (f_X6_rewind_29 n (u2 h 3 x1.toNatClampNeg 0) (x1 + 1)))
def f_X6_rewind_2 : Nat → hp → Int32 → Option hp
  | 0, _, _ => none
  | n + 1, h, x1 => if 512 ≤ x1 then (f_X6_rewind_29 1000 h 0) else (gd (¬ (x1 < 0 ∨ 512 ≤ x1.toNatClampNeg)) (gd (¬ (x1 < 0 ∨ 512 ≤ x1.toNatClampNeg)) (f_X6_rewind_2 n (u2 h 2 x1.toNatClampNeg (h 1 x1.toNatClampNeg)) (x1 + 1))))
def f_X6_rewind (h : hp)  : Option hp := f_X6_rewind_2 1000 h 0
abbrev rmX6_rewind : Room := { frames := 0, cells := 0, slots := 0, locals := 0 }
set_option maxHeartbeats 4000000 in
set_option maxRecDepth 100000 in
theorem c_X6_rewind (l : Launch) (dC : Nat → ClassId) (dI : Nat → Nat → Nat) (cI cZ : ClassId) (a : Nat → Nat) (hD : xD 11 a) (h : hp)  {h9 : hp} (hf : f_X6_rewind h  = some h9) : XMv l yX6_rewind wsX6_rewind rmX6_rewind (dC, dI) vwCl (mty cI cZ) 11 a (mcf cI cZ a) h [.ref (a 0)] h9 := by
  refine xm_v (cc := cX6_rewind) (maxL := 2) (ws' := wsX6_rewind.tail) (by decide) rfl hD (Nat.le_of_ble_eq_true rfl) [(0, .ref (a 0))] rfl RX6 rfl ?_
  intro p e s m args below meth c C hlk hr
  have wl53 : Cond.fieldLink RX6 53 "RewindBoxModel" "pc" "I" ∈ wsX6_rewind := by decide +kernel
  have wnX6 : ∀ w ∈ u_ws RX6 TX6 23, w ∈ wsX6_rewind := by decide +kernel
  have wl56 : Cond.fieldLink RX6 56 "RewindBoxModel" "back" "I" ∈ wsX6_rewind := by decide +kernel
  have wl59 : Cond.fieldLink RX6 59 "RewindBoxModel" "open" "Z" ∈ wsX6_rewind := by decide +kernel
  have wl62 : Cond.fieldLink RX6 62 "RewindBoxModel" "sent" "I" ∈ wsX6_rewind := by decide +kernel
  have wl65 : Cond.fieldLink RX6 65 "RewindBoxModel" "position" "I" ∈ wsX6_rewind := by decide +kernel
  have wl68 : Cond.fieldLink RX6 68 "RewindBoxModel" "passed" "I" ∈ wsX6_rewind := by decide +kernel
  have wl34 : Cond.fieldLink RX6 34 "RewindBoxModel" "written" "[Z" ∈ wsX6_rewind := by decide +kernel
  have wl16 : Cond.fieldLink RX6 16 "RewindBoxModel" "registers" "[I" ∈ wsX6_rewind := by decide +kernel
  have wl13 : Cond.fieldLink RX6 13 "RewindBoxModel" "memory" "[I" ∈ wsX6_rewind := by decide +kernel
  have wl7 : Cond.fieldLink RX6 7 "RewindBoxModel" "first" "[I" ∈ wsX6_rewind := by decide +kernel
  have lab50 : ∀ (n : Nat) (h : hp) (x1 : Int32) , f_X6_rewind_50 n h x1 = some h9 → XJ p l e rmX6_rewind s m args below meth c (dC, dI) vwCl 11 a (mcf cI cZ a) 2 (MQ below (XQv (dC, dI) vwCl 11 a (mcf cI cZ a) h9) args s 0 0 (xA 11 a)) h [(0, .ref (a 0)), (1, .int x1)] [] 50 := by
    intro n
    induction n with
    | zero => intro h x1  hf; simp [f_X6_rewind_50] at hf
    | succ n ih =>
      intro h x1  hf
      rw [f_X6_rewind_50] at hf
      refine xr_iload_n C dX6_rewind_50 1 rfl rfl ?_
      refine xr_bipush C (v := 32) dX6_rewind_51 (by decide +kernel) ?_
      refine xr_icmp_ge C 69 dX6_rewind_53 (by decide) (fun cd3 => ?_) (fun cd3 => ?_)
      · rw [if_pos cd3] at hf
        refine xr_aload_n C dX6_rewind_69 0 rfl rfl ?_
        refine xr_iconst C (v := 0) dX6_rewind_70 (by decide +kernel) ?_
        refine xr_put C (ci := 6) (Cn := RX6) (T := TX6) (N := 23) (ty := .int) (v := 0) 0 (by decide) rfl rfl 4 (by decide) wnX6 wl53 rfl tyX6 tyX6_ok nmX6 rfl (by decide +kernel) rfl rfl (Nat.le_of_ble_eq_true rfl) rfl dX6_rewind_71 ?_
        refine xr_aload_n C dX6_rewind_74 0 rfl rfl ?_
        refine xr_iconst C (v := 0) dX6_rewind_75 (by decide +kernel) ?_
        refine xr_put C (ci := 6) (Cn := RX6) (T := TX6) (N := 23) (ty := .int) (v := 0) 0 (by decide) rfl rfl 5 (by decide) wnX6 wl56 rfl tyX6 tyX6_ok nmX6 rfl (by decide +kernel) rfl rfl (Nat.le_of_ble_eq_true rfl) rfl dX6_rewind_76 ?_
        refine xr_aload_n C dX6_rewind_79 0 rfl rfl ?_
        refine xr_iconst C (v := 0) dX6_rewind_80 (by decide +kernel) ?_
        refine xr_put C (ci := 6) (Cn := RX6) (T := TX6) (N := 23) (ty := .boolean) (v := 0) 0 (by decide) rfl rfl 6 (by decide) wnX6 wl59 rfl tyX6 tyX6_ok nmX6 rfl (by decide +kernel) (by decide +kernel) (by decide +kernel) (Nat.le_of_ble_eq_true rfl) rfl dX6_rewind_81 ?_
        refine xr_aload_n C dX6_rewind_84 0 rfl rfl ?_
        refine xr_iconst C (v := 0) dX6_rewind_85 (by decide +kernel) ?_
        refine xr_put C (ci := 6) (Cn := RX6) (T := TX6) (N := 23) (ty := .int) (v := 0) 0 (by decide) rfl rfl 8 (by decide) wnX6 wl62 rfl tyX6 tyX6_ok nmX6 rfl (by decide +kernel) rfl rfl (Nat.le_of_ble_eq_true rfl) rfl dX6_rewind_86 ?_
        refine xr_aload_n C dX6_rewind_89 0 rfl rfl ?_
        refine xr_iconst C (v := 0) dX6_rewind_90 (by decide +kernel) ?_
        refine xr_put C (ci := 6) (Cn := RX6) (T := TX6) (N := 23) (ty := .int) (v := 0) 0 (by decide) rfl rfl 10 (by decide) wnX6 wl65 rfl tyX6 tyX6_ok nmX6 rfl (by decide +kernel) rfl rfl (Nat.le_of_ble_eq_true rfl) rfl dX6_rewind_91 ?_
        refine xr_aload_n C dX6_rewind_94 0 rfl rfl ?_
        refine xr_iconst C (v := 0) dX6_rewind_95 (by decide +kernel) ?_
        refine xr_put C (ci := 6) (Cn := RX6) (T := TX6) (N := 23) (ty := .int) (v := 0) 0 (by decide) rfl rfl 16 (by decide) wnX6 wl68 rfl tyX6 tyX6_ok nmX6 rfl (by decide +kernel) rfl rfl (Nat.le_of_ble_eq_true rfl) rfl dX6_rewind_96 ?_
        cases hf
        exact xr_vret C hlk hr dX6_rewind_99
      · rw [if_neg cd3] at hf
        refine xr_aload_n C dX6_rewind_56 0 rfl rfl ?_
        refine xr_get C (ci := 6) (Cn := RX6) (T := TX6) (N := 23) (v := .ref (a 9)) 0 (by decide) rfl rfl 19 (by decide) wnX6 wl34 rfl rfl dX6_rewind_57 ?_
        refine xr_iload_n C dX6_rewind_60 1 rfl rfl ?_
        refine xr_iconst C (v := 0) dX6_rewind_61 (by decide +kernel) ?_
        obtain ⟨gg4, hf⟩ := gd_some hf
        refine xr_zast C 9 (by decide) 1 (fun _ => rfl) rfl (by decide +kernel) gg4 dX6_rewind_62 ?_
        refine xr_iinc C [(1, .int (x1 + 1)), (0, .ref (a 0))] dX6_rewind_63 1 rfl rfl (by decide) rfl ?_
        refine xr_goto C 50 dX6_rewind_66 (by decide) ?_
        exact xr_sub C [1, 0] rfl (ih (u2 h 9 x1.toNatClampNeg 0) (x1 + 1)  hf)
  have lab29 : ∀ (n : Nat) (h : hp) (x1 : Int32) , f_X6_rewind_29 n h x1 = some h9 → XJ p l e rmX6_rewind s m args below meth c (dC, dI) vwCl 11 a (mcf cI cZ a) 2 (MQ below (XQv (dC, dI) vwCl 11 a (mcf cI cZ a) h9) args s 0 0 (xA 11 a)) h [(0, .ref (a 0)), (1, .int x1)] [] 29 := by
    intro n
    induction n with
    | zero => intro h x1  hf; simp [f_X6_rewind_29] at hf
    | succ n ih =>
      intro h x1  hf
      rw [f_X6_rewind_29] at hf
      refine xr_iload_n C dX6_rewind_29 1 rfl rfl ?_
      refine xr_bipush C (v := 8) dX6_rewind_30 (by decide +kernel) ?_
      refine xr_icmp_ge C 48 dX6_rewind_32 (by decide) (fun cd2 => ?_) (fun cd2 => ?_)
      · rw [if_pos cd2] at hf
        refine xr_iconst C (v := 0) dX6_rewind_48 (by decide +kernel) ?_
        refine xr_istore_n C [(1, .int 0), (0, .ref (a 0))] dX6_rewind_49 rfl (by decide) rfl ?_
        exact xr_sub C [1, 0] rfl (lab50 1000 h 0  hf)
      · rw [if_neg cd2] at hf
        refine xr_aload_n C dX6_rewind_35 0 rfl rfl ?_
        refine xr_get C (ci := 6) (Cn := RX6) (T := TX6) (N := 23) (v := .ref (a 3)) 0 (by decide) rfl rfl 3 (by decide) wnX6 wl16 rfl rfl dX6_rewind_36 ?_
        refine xr_iload_n C dX6_rewind_39 1 rfl rfl ?_
        refine xr_iconst C (v := 0) dX6_rewind_40 (by decide +kernel) ?_
        obtain ⟨gg5, hf⟩ := gd_some hf
        refine xr_iast C 3 (by decide) 0 (fun _ => rfl) rfl gg5 dX6_rewind_41 ?_
        refine xr_iinc C [(1, .int (x1 + 1)), (0, .ref (a 0))] dX6_rewind_42 1 rfl rfl (by decide) rfl ?_
        refine xr_goto C 29 dX6_rewind_45 (by decide) ?_
        exact xr_sub C [1, 0] rfl (ih (u2 h 3 x1.toNatClampNeg 0) (x1 + 1)  hf)
  have lab2 : ∀ (n : Nat) (h : hp) (x1 : Int32) , f_X6_rewind_2 n h x1 = some h9 → XJ p l e rmX6_rewind s m args below meth c (dC, dI) vwCl 11 a (mcf cI cZ a) 2 (MQ below (XQv (dC, dI) vwCl 11 a (mcf cI cZ a) h9) args s 0 0 (xA 11 a)) h [(0, .ref (a 0)), (1, .int x1)] [] 2 := by
    intro n
    induction n with
    | zero => intro h x1  hf; simp [f_X6_rewind_2] at hf
    | succ n ih =>
      intro h x1  hf
      rw [f_X6_rewind_2] at hf
      refine xr_iload_n C dX6_rewind_2 1 rfl rfl ?_
      refine xr_sipush C (v := 512) dX6_rewind_3 (by decide +kernel) ?_
      refine xr_icmp_ge C 27 dX6_rewind_6 (by decide) (fun cd1 => ?_) (fun cd1 => ?_)
      · rw [if_pos cd1] at hf
        refine xr_iconst C (v := 0) dX6_rewind_27 (by decide +kernel) ?_
        refine xr_istore_n C [(1, .int 0), (0, .ref (a 0))] dX6_rewind_28 rfl (by decide) rfl ?_
        exact xr_sub C [1, 0] rfl (lab29 1000 h 0  hf)
      · rw [if_neg cd1] at hf
        refine xr_aload_n C dX6_rewind_9 0 rfl rfl ?_
        refine xr_get C (ci := 6) (Cn := RX6) (T := TX6) (N := 23) (v := .ref (a 2)) 0 (by decide) rfl rfl 2 (by decide) wnX6 wl13 rfl rfl dX6_rewind_10 ?_
        refine xr_iload_n C dX6_rewind_13 1 rfl rfl ?_
        refine xr_aload_n C dX6_rewind_14 0 rfl rfl ?_
        refine xr_get C (ci := 6) (Cn := RX6) (T := TX6) (N := 23) (v := .ref (a 1)) 0 (by decide) rfl rfl 1 (by decide) wnX6 wl7 rfl rfl dX6_rewind_15 ?_
        refine xr_iload_n C dX6_rewind_18 1 rfl rfl ?_
        obtain ⟨gg6, hf⟩ := gd_some hf
        refine xr_iald C (v := h 1 x1.toNatClampNeg) 1 (by decide) 0 rfl rfl gg6 rfl dX6_rewind_19 ?_
        obtain ⟨gg7, hf⟩ := gd_some hf
        refine xr_iast C 2 (by decide) 0 (fun _ => rfl) rfl gg7 dX6_rewind_20 ?_
        refine xr_iinc C [(1, .int (x1 + 1)), (0, .ref (a 0))] dX6_rewind_21 1 rfl rfl (by decide) rfl ?_
        refine xr_goto C 2 dX6_rewind_24 (by decide) ?_
        exact xr_sub C [1, 0] rfl (ih (u2 h 2 x1.toNatClampNeg (h 1 x1.toNatClampNeg)) (x1 + 1)  hf)
  unfold f_X6_rewind at hf
  refine xr_iconst C (v := 0) dX6_rewind_0 (by decide +kernel) ?_
  refine xr_istore_n C [(1, .int 0), (0, .ref (a 0))] dX6_rewind_1 rfl (by decide) rfl ?_
  exact xr_sub C [1, 0] rfl (lab2 1000 h 0  hf)
def f_X6_start_2 : Nat → hp → Int32 → Option hp
  | 0, _, _ => none
  | n + 1, h, x1 => if 512 ≤ x1 then (bV (f_X6_rewind (u2 (u2 (u2 (u2 (u2 (u2 (u2 h 0 9 1) 0 11 0) 0 15 0) 0 17 1) 8 (0 : Int32).toNatClampNeg 0) 0 21 0) 0 22 0)) (fun hh3 => some hh3)) else (gd (¬ (x1 < 0 ∨ 512 ≤ x1.toNatClampNeg)) (gd (¬ (x1 < 0 ∨ 512 ≤ x1.toNatClampNeg)) (f_X6_start_2 n (u2 h 1 x1.toNatClampNeg (h 2 x1.toNatClampNeg)) (x1 + 1))))
def f_X6_start (h : hp)  : Option hp := f_X6_start_2 1000 h 0
abbrev rmX6_start : Room := { frames := 1, cells := 0, slots := 0, locals := 21 }
set_option maxHeartbeats 4000000 in
set_option maxRecDepth 100000 in
theorem c_X6_start (l : Launch) (dC : Nat → ClassId) (dI : Nat → Nat → Nat) (cI cZ : ClassId) (a : Nat → Nat) (hD : xD 11 a) (h : hp)  {h9 : hp} (hf : f_X6_start h  = some h9) : XMv l yX6_start wsX6_start rmX6_start (dC, dI) vwCl (mty cI cZ) 11 a (mcf cI cZ a) h [.ref (a 0)] h9 := by
  refine xm_v (cc := cX6_start) (maxL := 2) (ws' := wsX6_start.tail) (by decide) rfl hD (Nat.le_of_ble_eq_true rfl) [(0, .ref (a 0))] rfl RX6 rfl ?_
  intro p e s m args below meth c C hlk hr
  have wl45 : Cond.fieldLink RX6 45 "RewindBoxModel" "records" "Z" ∈ wsX6_start := by decide +kernel
  have wnX6 : ∀ w ∈ u_ws RX6 TX6 23, w ∈ wsX6_start := by decide +kernel
  have wl71 : Cond.fieldLink RX6 71 "RewindBoxModel" "end" "I" ∈ wsX6_start := by decide +kernel
  have wl74 : Cond.fieldLink RX6 74 "RewindBoxModel" "entries" "I" ∈ wsX6_start := by decide +kernel
  have wl77 : Cond.fieldLink RX6 77 "RewindBoxModel" "snapshots" "I" ∈ wsX6_start := by decide +kernel
  have wl31 : Cond.fieldLink RX6 31 "RewindBoxModel" "pagesOf" "[I" ∈ wsX6_start := by decide +kernel
  have wl80 : Cond.fieldLink RX6 80 "RewindBoxModel" "waiting" "I" ∈ wsX6_start := by decide +kernel
  have wl83 : Cond.fieldLink RX6 83 "RewindBoxModel" "rang" "Z" ∈ wsX6_start := by decide +kernel
  have wl7 : Cond.fieldLink RX6 7 "RewindBoxModel" "first" "[I" ∈ wsX6_start := by decide +kernel
  have wl13 : Cond.fieldLink RX6 13 "RewindBoxModel" "memory" "[I" ∈ wsX6_start := by decide +kernel
  have lab2 : ∀ (n : Nat) (h : hp) (x1 : Int32) , f_X6_start_2 n h x1 = some h9 → XJ p l e rmX6_start s m args below meth c (dC, dI) vwCl 11 a (mcf cI cZ a) 2 (MQ below (XQv (dC, dI) vwCl 11 a (mcf cI cZ a) h9) args s 0 0 (xA 11 a)) h [(0, .ref (a 0)), (1, .int x1)] [] 2 := by
    intro n
    induction n with
    | zero => intro h x1  hf; simp [f_X6_start_2] at hf
    | succ n ih =>
      intro h x1  hf
      rw [f_X6_start_2] at hf
      refine xr_iload_n C dX6_start_2 1 rfl rfl ?_
      refine xr_sipush C (v := 512) dX6_start_3 (by decide +kernel) ?_
      refine xr_icmp_ge C 27 dX6_start_6 (by decide) (fun cd1 => ?_) (fun cd1 => ?_)
      · rw [if_pos cd1] at hf
        refine xr_aload_n C dX6_start_27 0 rfl rfl ?_
        refine xr_iconst C (v := 1) dX6_start_28 (by decide +kernel) ?_
        refine xr_put C (ci := 6) (Cn := RX6) (T := TX6) (N := 23) (ty := .boolean) (v := 1) 0 (by decide) rfl rfl 9 (by decide) wnX6 wl45 rfl tyX6 tyX6_ok nmX6 rfl (by decide +kernel) (by decide +kernel) (by decide +kernel) (Nat.le_of_ble_eq_true rfl) rfl dX6_start_29 ?_
        refine xr_aload_n C dX6_start_32 0 rfl rfl ?_
        refine xr_iconst C (v := 0) dX6_start_33 (by decide +kernel) ?_
        refine xr_put C (ci := 6) (Cn := RX6) (T := TX6) (N := 23) (ty := .int) (v := 0) 0 (by decide) rfl rfl 11 (by decide) wnX6 wl71 rfl tyX6 tyX6_ok nmX6 rfl (by decide +kernel) rfl rfl (Nat.le_of_ble_eq_true rfl) rfl dX6_start_34 ?_
        refine xr_aload_n C dX6_start_37 0 rfl rfl ?_
        refine xr_iconst C (v := 0) dX6_start_38 (by decide +kernel) ?_
        refine xr_put C (ci := 6) (Cn := RX6) (T := TX6) (N := 23) (ty := .int) (v := 0) 0 (by decide) rfl rfl 15 (by decide) wnX6 wl74 rfl tyX6 tyX6_ok nmX6 rfl (by decide +kernel) rfl rfl (Nat.le_of_ble_eq_true rfl) rfl dX6_start_39 ?_
        refine xr_aload_n C dX6_start_42 0 rfl rfl ?_
        refine xr_iconst C (v := 1) dX6_start_43 (by decide +kernel) ?_
        refine xr_put C (ci := 6) (Cn := RX6) (T := TX6) (N := 23) (ty := .int) (v := 1) 0 (by decide) rfl rfl 17 (by decide) wnX6 wl77 rfl tyX6 tyX6_ok nmX6 rfl (by decide +kernel) rfl rfl (Nat.le_of_ble_eq_true rfl) rfl dX6_start_44 ?_
        refine xr_aload_n C dX6_start_47 0 rfl rfl ?_
        refine xr_get C (ci := 6) (Cn := RX6) (T := TX6) (N := 23) (v := .ref (a 8)) 0 (by decide) rfl rfl 18 (by decide) wnX6 wl31 rfl rfl dX6_start_48 ?_
        refine xr_iconst C (v := 0) dX6_start_51 (by decide +kernel) ?_
        refine xr_iconst C (v := 0) dX6_start_52 (by decide +kernel) ?_
        refine xr_iast C 8 (by decide) 0 (fun _ => rfl) rfl (by decide) dX6_start_53 ?_
        refine xr_aload_n C dX6_start_54 0 rfl rfl ?_
        refine xr_iconst C (v := 0) dX6_start_55 (by decide +kernel) ?_
        refine xr_put C (ci := 6) (Cn := RX6) (T := TX6) (N := 23) (ty := .int) (v := 0) 0 (by decide) rfl rfl 21 (by decide) wnX6 wl80 rfl tyX6 tyX6_ok nmX6 rfl (by decide +kernel) rfl rfl (Nat.le_of_ble_eq_true rfl) rfl dX6_start_56 ?_
        refine xr_aload_n C dX6_start_59 0 rfl rfl ?_
        refine xr_iconst C (v := 0) dX6_start_60 (by decide +kernel) ?_
        refine xr_put C (ci := 6) (Cn := RX6) (T := TX6) (N := 23) (ty := .boolean) (v := 0) 0 (by decide) rfl rfl 22 (by decide) wnX6 wl83 rfl tyX6 tyX6_ok nmX6 rfl (by decide +kernel) (by decide +kernel) (by decide +kernel) (Nat.le_of_ble_eq_true rfl) rfl dX6_start_61 ?_
        refine xr_aload_n C dX6_start_64 0 rfl rfl ?_
        obtain ⟨hh3, ee2, hf⟩ := bV_some hf
        refine xr_callVv C (Cn := RX6) 0 (by decide) rfl rfl [] [] (c_X6_rewind l dC dI cI cZ a hD (u2 (u2 (u2 (u2 (u2 (u2 (u2 h 0 9 1) 0 11 0) 0 15 0) 0 17 1) 8 (0 : Int32).toNatClampNeg 0) 0 21 0) 0 22 0) ee2) (cwV 0 C.2.2.1 gX6_start_X6_rewind rfl rfl rfl (by decide +kernel) ⟨Nat.le_of_ble_eq_true rfl, Nat.le_of_ble_eq_true rfl⟩) rfl rfl (Nat.le_of_ble_eq_true rfl) dX6_start_65 ?_
        cases hf
        exact xr_vret C hlk hr dX6_start_68
      · rw [if_neg cd1] at hf
        refine xr_aload_n C dX6_start_9 0 rfl rfl ?_
        refine xr_get C (ci := 6) (Cn := RX6) (T := TX6) (N := 23) (v := .ref (a 1)) 0 (by decide) rfl rfl 1 (by decide) wnX6 wl7 rfl rfl dX6_start_10 ?_
        refine xr_iload_n C dX6_start_13 1 rfl rfl ?_
        refine xr_aload_n C dX6_start_14 0 rfl rfl ?_
        refine xr_get C (ci := 6) (Cn := RX6) (T := TX6) (N := 23) (v := .ref (a 2)) 0 (by decide) rfl rfl 2 (by decide) wnX6 wl13 rfl rfl dX6_start_15 ?_
        refine xr_iload_n C dX6_start_18 1 rfl rfl ?_
        obtain ⟨gg4, hf⟩ := gd_some hf
        refine xr_iald C (v := h 2 x1.toNatClampNeg) 2 (by decide) 0 rfl rfl gg4 rfl dX6_start_19 ?_
        obtain ⟨gg5, hf⟩ := gd_some hf
        refine xr_iast C 1 (by decide) 0 (fun _ => rfl) rfl gg5 dX6_start_20 ?_
        refine xr_iinc C [(1, .int (x1 + 1)), (0, .ref (a 0))] dX6_start_21 1 rfl rfl (by decide) rfl ?_
        refine xr_goto C 2 dX6_start_24 (by decide) ?_
        exact xr_sub C [1, 0] rfl (ih (u2 h 1 x1.toNatClampNeg (h 2 x1.toNatClampNeg)) (x1 + 1)  hf)
  unfold f_X6_start at hf
  refine xr_iconst C (v := 0) dX6_start_0 (by decide +kernel) ?_
  refine xr_istore_n C [(1, .int 0), (0, .ref (a 0))] dX6_start_1 rfl (by decide) rfl ?_
  exact xr_sub C [1, 0] rfl (lab2 1000 h 0  hf)
def f_X6_stop (h : hp)  : Option hp := some (u2 h 0 9 0)
abbrev rmX6_stop : Room := { frames := 0, cells := 0, slots := 0, locals := 0 }
set_option maxHeartbeats 4000000 in
set_option maxRecDepth 100000 in
theorem c_X6_stop (l : Launch) (dC : Nat → ClassId) (dI : Nat → Nat → Nat) (cI cZ : ClassId) (a : Nat → Nat) (hD : xD 11 a) (h : hp)  {h9 : hp} (hf : f_X6_stop h  = some h9) : XMv l yX6_stop wsX6_stop rmX6_stop (dC, dI) vwCl (mty cI cZ) 11 a (mcf cI cZ a) h [.ref (a 0)] h9 := by
  refine xm_v (cc := cX6_stop) (maxL := 1) (ws' := wsX6_stop.tail) (by decide) rfl hD (Nat.le_of_ble_eq_true rfl) [(0, .ref (a 0))] rfl RX6 rfl ?_
  intro p e s m args below meth c C hlk hr
  have wl45 : Cond.fieldLink RX6 45 "RewindBoxModel" "records" "Z" ∈ wsX6_stop := by decide +kernel
  have wnX6 : ∀ w ∈ u_ws RX6 TX6 23, w ∈ wsX6_stop := by decide +kernel
  unfold f_X6_stop at hf
  refine xr_aload_n C dX6_stop_0 0 rfl rfl ?_
  refine xr_iconst C (v := 0) dX6_stop_1 (by decide +kernel) ?_
  refine xr_put C (ci := 6) (Cn := RX6) (T := TX6) (N := 23) (ty := .boolean) (v := 0) 0 (by decide) rfl rfl 9 (by decide) wnX6 wl45 rfl tyX6 tyX6_ok nmX6 rfl (by decide +kernel) (by decide +kernel) (by decide +kernel) (Nat.le_of_ble_eq_true rfl) rfl dX6_stop_2 ?_
  cases hf
  exact xr_vret C hlk hr dX6_stop_5
def f_X6_give (h : hp) (x1 : Int32) : Option (Int32 × hp) := if h 0 9 = 0 then (some ((-1), h)) else (if h 0 21 = 100 then (some ((-1), h)) else (gd (¬ ((h 0 21) < 0 ∨ 100 ≤ (h 0 21).toNatClampNeg)) (some (((h 0 21) + 1), (u2 (u2 h 10 (h 0 21).toNatClampNeg x1) 0 21 ((h 0 21) + 1))))))
abbrev rmX6_give : Room := { frames := 0, cells := 0, slots := 0, locals := 0 }
set_option maxHeartbeats 4000000 in
set_option maxRecDepth 100000 in
theorem c_X6_give (l : Launch) (dC : Nat → ClassId) (dI : Nat → Nat → Nat) (cI cZ : ClassId) (a : Nat → Nat) (hD : xD 11 a) (h : hp) (x1 : Int32) {r9 : Int32} {h9 : hp} (hf : f_X6_give h x1 = some (r9, h9)) : XMi l yX6_give wsX6_give rmX6_give (dC, dI) vwCl (mty cI cZ) 11 a (mcf cI cZ a) h [.ref (a 0), .int x1] r9 h9 := by
  refine xm_i (cc := cX6_give) (maxL := 2) (ws' := wsX6_give.tail) (by decide) rfl hD (Nat.le_of_ble_eq_true rfl) [(0, .ref (a 0)), (1, .int x1)] rfl RX6 rfl ?_
  intro p e s m args below meth c C hlk hr
  have wl45 : Cond.fieldLink RX6 45 "RewindBoxModel" "records" "Z" ∈ wsX6_give := by decide +kernel
  have wnX6 : ∀ w ∈ u_ws RX6 TX6 23, w ∈ wsX6_give := by decide +kernel
  have wl80 : Cond.fieldLink RX6 80 "RewindBoxModel" "waiting" "I" ∈ wsX6_give := by decide +kernel
  have wl38 : Cond.fieldLink RX6 38 "RewindBoxModel" "inputs" "[I" ∈ wsX6_give := by decide +kernel
  unfold f_X6_give at hf
  refine xr_aload_n C dX6_give_0 0 rfl rfl ?_
  refine xr_get C (ci := 6) (Cn := RX6) (T := TX6) (N := 23) (v := .int (h 0 9)) 0 (by decide) rfl rfl 9 (by decide) wnX6 wl45 rfl rfl dX6_give_1 ?_
  refine xr_if_eq C 16 dX6_give_4 (by decide) (fun cd1 => ?_) (fun cd1 => ?_)
  · rw [if_pos cd1] at hf
    refine xr_iconst C (v := (-1)) dX6_give_16 (by decide +kernel) ?_
    cases hf
    exact xr_iret C hlk hr dX6_give_17
  · rw [if_neg cd1] at hf
    refine xr_aload_n C dX6_give_7 0 rfl rfl ?_
    refine xr_get C (ci := 6) (Cn := RX6) (T := TX6) (N := 23) (v := .int (h 0 21)) 0 (by decide) rfl rfl 21 (by decide) wnX6 wl80 rfl rfl dX6_give_8 ?_
    refine xr_bipush C (v := 100) dX6_give_11 (by decide +kernel) ?_
    refine xr_icmp_ne C 18 dX6_give_13 (by decide) (fun cd2 => ?_) (fun cd2 => ?_)
    · rw [if_neg cd2] at hf
      refine xr_aload_n C dX6_give_18 0 rfl rfl ?_
      refine xr_get C (ci := 6) (Cn := RX6) (T := TX6) (N := 23) (v := .ref (a 10)) 0 (by decide) rfl rfl 20 (by decide) wnX6 wl38 rfl rfl dX6_give_19 ?_
      refine xr_aload_n C dX6_give_22 0 rfl rfl ?_
      refine xr_get C (ci := 6) (Cn := RX6) (T := TX6) (N := 23) (v := .int (h 0 21)) 0 (by decide) rfl rfl 21 (by decide) wnX6 wl80 rfl rfl dX6_give_23 ?_
      refine xr_iload_n C dX6_give_26 1 rfl rfl ?_
      obtain ⟨gg3, hf⟩ := gd_some hf
      refine xr_iast C 10 (by decide) 0 (fun _ => rfl) rfl gg3 dX6_give_27 ?_
      refine xr_aload_n C dX6_give_28 0 rfl rfl ?_
      refine xr_dup C dX6_give_29 rfl ?_
      refine xr_get C (ci := 6) (Cn := RX6) (T := TX6) (N := 23) (v := .int (h 0 21)) 0 (by decide) rfl rfl 21 (by decide) wnX6 wl80 rfl rfl dX6_give_30 ?_
      refine xr_iconst C (v := 1) dX6_give_33 (by decide +kernel) ?_
      refine xr_iadd C dX6_give_34 ?_
      refine xr_put C (ci := 6) (Cn := RX6) (T := TX6) (N := 23) (ty := .int) (v := ((h 0 21) + 1)) 0 (by decide) rfl rfl 21 (by decide) wnX6 wl80 rfl tyX6 tyX6_ok nmX6 rfl (by decide +kernel) rfl rfl (Nat.le_of_ble_eq_true rfl) rfl dX6_give_35 ?_
      refine xr_aload_n C dX6_give_38 0 rfl rfl ?_
      refine xr_get C (ci := 6) (Cn := RX6) (T := TX6) (N := 23) (v := .int ((h 0 21) + 1)) 0 (by decide) rfl rfl 21 (by decide) wnX6 wl80 rfl rfl dX6_give_39 ?_
      cases hf
      exact xr_iret C hlk hr dX6_give_42
    · rw [if_pos cd2] at hf
      refine xr_iconst C (v := (-1)) dX6_give_16 (by decide +kernel) ?_
      cases hf
      exact xr_iret C hlk hr dX6_give_17
def f_X6_ring (h : hp)  : Option (Int32 × hp) := if h 0 9 = 0 then (gd ((h 0 9) = 0 ∨ (h 0 9) = 1) (some (h 0 9, h))) else (gd ((h 0 9) = 0 ∨ (h 0 9) = 1) (some (h 0 9, (u2 h 0 22 1))))
abbrev rmX6_ring : Room := { frames := 0, cells := 0, slots := 0, locals := 0 }
set_option maxHeartbeats 4000000 in
set_option maxRecDepth 100000 in
theorem c_X6_ring (l : Launch) (dC : Nat → ClassId) (dI : Nat → Nat → Nat) (cI cZ : ClassId) (a : Nat → Nat) (hD : xD 11 a) (h : hp)  {r9 : Int32} {h9 : hp} (hf : f_X6_ring h  = some (r9, h9)) : XMi l yX6_ring wsX6_ring rmX6_ring (dC, dI) vwCl (mty cI cZ) 11 a (mcf cI cZ a) h [.ref (a 0)] r9 h9 := by
  refine xm_i (cc := cX6_ring) (maxL := 1) (ws' := wsX6_ring.tail) (by decide) rfl hD (Nat.le_of_ble_eq_true rfl) [(0, .ref (a 0))] rfl RX6 rfl ?_
  intro p e s m args below meth c C hlk hr
  have wl45 : Cond.fieldLink RX6 45 "RewindBoxModel" "records" "Z" ∈ wsX6_ring := by decide +kernel
  have wnX6 : ∀ w ∈ u_ws RX6 TX6 23, w ∈ wsX6_ring := by decide +kernel
  have wl83 : Cond.fieldLink RX6 83 "RewindBoxModel" "rang" "Z" ∈ wsX6_ring := by decide +kernel
  unfold f_X6_ring at hf
  refine xr_aload_n C dX6_ring_0 0 rfl rfl ?_
  refine xr_get C (ci := 6) (Cn := RX6) (T := TX6) (N := 23) (v := .int (h 0 9)) 0 (by decide) rfl rfl 9 (by decide) wnX6 wl45 rfl rfl dX6_ring_1 ?_
  refine xr_if_eq C 12 dX6_ring_4 (by decide) (fun cd1 => ?_) (fun cd1 => ?_)
  · rw [if_pos cd1] at hf
    refine xr_aload_n C dX6_ring_12 0 rfl rfl ?_
    refine xr_get C (ci := 6) (Cn := RX6) (T := TX6) (N := 23) (v := .int (h 0 9)) 0 (by decide) rfl rfl 9 (by decide) wnX6 wl45 rfl rfl dX6_ring_13 ?_
    obtain ⟨gg2, hf⟩ := gd_some hf
    cases hf
    exact xr_zret C hlk hr (xb_z gg2).1 dX6_ring_16
  · rw [if_neg cd1] at hf
    refine xr_aload_n C dX6_ring_7 0 rfl rfl ?_
    refine xr_iconst C (v := 1) dX6_ring_8 (by decide +kernel) ?_
    refine xr_put C (ci := 6) (Cn := RX6) (T := TX6) (N := 23) (ty := .boolean) (v := 1) 0 (by decide) rfl rfl 22 (by decide) wnX6 wl83 rfl tyX6 tyX6_ok nmX6 rfl (by decide +kernel) (by decide +kernel) (by decide +kernel) (Nat.le_of_ble_eq_true rfl) rfl dX6_ring_9 ?_
    refine xr_aload_n C dX6_ring_12 0 rfl rfl ?_
    refine xr_get C (ci := 6) (Cn := RX6) (T := TX6) (N := 23) (v := .int (h 0 9)) 0 (by decide) rfl rfl 9 (by decide) wnX6 wl45 rfl rfl dX6_ring_13 ?_
    obtain ⟨gg3, hf⟩ := gd_some hf
    cases hf
    exact xr_zret C hlk hr (xb_z gg3).1 dX6_ring_16
def f_X6_meant (h0 : hp) (x1 : Int32) : Option Int32 := gd (¬ (((x1 >>> (8 &&& 31)) &&& 7) < 0 ∨ 8 ≤ ((x1 >>> (8 &&& 31)) &&& 7).toNatClampNeg)) (some (((h0 3 ((x1 >>> (8 &&& 31)) &&& 7).toNatClampNeg) + x1.toInt8.toInt32) &&& 511))
abbrev rmX6_meant : Room := { frames := 0, cells := 0, slots := 0, locals := 0 }
set_option maxHeartbeats 4000000 in
set_option maxRecDepth 100000 in
theorem c_X6_meant (l : Launch) (dC : Nat → ClassId) (dI : Nat → Nat → Nat) (cI cZ : ClassId) (a : Nat → Nat) (hD : xD 11 a) (h0 : hp) (x1 : Int32) {r9 : Int32} (hf : f_X6_meant h0 x1 = some r9) : XMi l yX6_meant wsX6_meant rmX6_meant (dC, dI) vwCl (mty cI cZ) 11 a (mcf cI cZ a) h0 [.ref (a 0), .int x1] r9 h0 := by
  refine xm_i (cc := cX6_meant) (maxL := 2) (ws' := wsX6_meant.tail) (by decide) rfl hD (Nat.le_of_ble_eq_true rfl) [(0, .ref (a 0)), (1, .int x1)] rfl RX6 rfl ?_
  intro p e s m args below meth c C hlk hr
  have wl16 : Cond.fieldLink RX6 16 "RewindBoxModel" "registers" "[I" ∈ wsX6_meant := by decide +kernel
  have wnX6 : ∀ w ∈ u_ws RX6 TX6 23, w ∈ wsX6_meant := by decide +kernel
  unfold f_X6_meant at hf
  refine xr_aload_n C dX6_meant_0 0 rfl rfl ?_
  refine xr_get C (ci := 6) (Cn := RX6) (T := TX6) (N := 23) (v := .ref (a 3)) 0 (by decide) rfl rfl 3 (by decide) wnX6 wl16 rfl rfl dX6_meant_1 ?_
  refine xr_iload_n C dX6_meant_4 1 rfl rfl ?_
  refine xr_bipush C (v := 8) dX6_meant_5 (by decide +kernel) ?_
  refine xr_ishr C dX6_meant_7 ?_
  refine xr_bipush C (v := 7) dX6_meant_8 (by decide +kernel) ?_
  refine xr_iand C dX6_meant_10 ?_
  obtain ⟨gg1, hf⟩ := gd_some hf
  refine xr_iald C (v := h0 3 ((x1 >>> (8 &&& 31)) &&& 7).toNatClampNeg) 3 (by decide) 0 rfl rfl gg1 rfl dX6_meant_11 ?_
  refine xr_iload_n C dX6_meant_12 1 rfl rfl ?_
  refine xr_i2b C dX6_meant_13 ?_
  refine xr_iadd C dX6_meant_14 ?_
  refine xr_sipush C (v := 511) dX6_meant_15 (by decide +kernel) ?_
  refine xr_iand C dX6_meant_18 ?_
  cases hf
  exact xr_iret C hlk hr dX6_meant_19
def f_X6_interrupt (h : hp)  : Option hp := some (u2 (u2 (u2 h 0 5 (h 0 4)) 0 4 8) 0 6 0)
abbrev rmX6_interrupt : Room := { frames := 0, cells := 0, slots := 0, locals := 0 }
set_option maxHeartbeats 4000000 in
set_option maxRecDepth 100000 in
theorem c_X6_interrupt (l : Launch) (dC : Nat → ClassId) (dI : Nat → Nat → Nat) (cI cZ : ClassId) (a : Nat → Nat) (hD : xD 11 a) (h : hp)  {h9 : hp} (hf : f_X6_interrupt h  = some h9) : XMv l yX6_interrupt wsX6_interrupt rmX6_interrupt (dC, dI) vwCl (mty cI cZ) 11 a (mcf cI cZ a) h [.ref (a 0)] h9 := by
  refine xm_v (cc := cX6_interrupt) (maxL := 1) (ws' := wsX6_interrupt.tail) (by decide) rfl hD (Nat.le_of_ble_eq_true rfl) [(0, .ref (a 0))] rfl RX6 rfl ?_
  intro p e s m args below meth c C hlk hr
  have wl53 : Cond.fieldLink RX6 53 "RewindBoxModel" "pc" "I" ∈ wsX6_interrupt := by decide +kernel
  have wnX6 : ∀ w ∈ u_ws RX6 TX6 23, w ∈ wsX6_interrupt := by decide +kernel
  have wl56 : Cond.fieldLink RX6 56 "RewindBoxModel" "back" "I" ∈ wsX6_interrupt := by decide +kernel
  have wl59 : Cond.fieldLink RX6 59 "RewindBoxModel" "open" "Z" ∈ wsX6_interrupt := by decide +kernel
  unfold f_X6_interrupt at hf
  refine xr_aload_n C dX6_interrupt_0 0 rfl rfl ?_
  refine xr_aload_n C dX6_interrupt_1 0 rfl rfl ?_
  refine xr_get C (ci := 6) (Cn := RX6) (T := TX6) (N := 23) (v := .int (h 0 4)) 0 (by decide) rfl rfl 4 (by decide) wnX6 wl53 rfl rfl dX6_interrupt_2 ?_
  refine xr_put C (ci := 6) (Cn := RX6) (T := TX6) (N := 23) (ty := .int) (v := h 0 4) 0 (by decide) rfl rfl 5 (by decide) wnX6 wl56 rfl tyX6 tyX6_ok nmX6 rfl (by decide +kernel) rfl rfl (Nat.le_of_ble_eq_true rfl) rfl dX6_interrupt_5 ?_
  refine xr_aload_n C dX6_interrupt_8 0 rfl rfl ?_
  refine xr_bipush C (v := 8) dX6_interrupt_9 (by decide +kernel) ?_
  refine xr_put C (ci := 6) (Cn := RX6) (T := TX6) (N := 23) (ty := .int) (v := 8) 0 (by decide) rfl rfl 4 (by decide) wnX6 wl53 rfl tyX6 tyX6_ok nmX6 rfl (by decide +kernel) rfl rfl (Nat.le_of_ble_eq_true rfl) rfl dX6_interrupt_11 ?_
  refine xr_aload_n C dX6_interrupt_14 0 rfl rfl ?_
  refine xr_iconst C (v := 0) dX6_interrupt_15 (by decide +kernel) ?_
  refine xr_put C (ci := 6) (Cn := RX6) (T := TX6) (N := 23) (ty := .boolean) (v := 0) 0 (by decide) rfl rfl 6 (by decide) wnX6 wl59 rfl tyX6 tyX6_ok nmX6 rfl (by decide +kernel) (by decide +kernel) (by decide +kernel) (Nat.le_of_ble_eq_true rfl) rfl dX6_interrupt_16 ?_
  cases hf
  exact xr_vret C hlk hr dX6_interrupt_19
def f_X6_send (h : hp) (x1 : Int32) : Option hp := if 64 ≤ h 0 8 then (some (u2 h 0 8 ((h 0 8) + 1))) else (gd (¬ ((h 0 8) < 0 ∨ 64 ≤ (h 0 8).toNatClampNeg)) (some (u2 (u2 h 4 (h 0 8).toNatClampNeg x1) 0 8 ((h 0 8) + 1))))
abbrev rmX6_send : Room := { frames := 0, cells := 0, slots := 0, locals := 0 }
set_option maxHeartbeats 4000000 in
set_option maxRecDepth 100000 in
theorem c_X6_send (l : Launch) (dC : Nat → ClassId) (dI : Nat → Nat → Nat) (cI cZ : ClassId) (a : Nat → Nat) (hD : xD 11 a) (h : hp) (x1 : Int32) {h9 : hp} (hf : f_X6_send h x1 = some h9) : XMv l yX6_send wsX6_send rmX6_send (dC, dI) vwCl (mty cI cZ) 11 a (mcf cI cZ a) h [.ref (a 0), .int x1] h9 := by
  refine xm_v (cc := cX6_send) (maxL := 2) (ws' := wsX6_send.tail) (by decide) rfl hD (Nat.le_of_ble_eq_true rfl) [(0, .ref (a 0)), (1, .int x1)] rfl RX6 rfl ?_
  intro p e s m args below meth c C hlk hr
  have wl62 : Cond.fieldLink RX6 62 "RewindBoxModel" "sent" "I" ∈ wsX6_send := by decide +kernel
  have wnX6 : ∀ w ∈ u_ws RX6 TX6 23, w ∈ wsX6_send := by decide +kernel
  have wl19 : Cond.fieldLink RX6 19 "RewindBoxModel" "kept" "[I" ∈ wsX6_send := by decide +kernel
  unfold f_X6_send at hf
  refine xr_aload_n C dX6_send_0 0 rfl rfl ?_
  refine xr_get C (ci := 6) (Cn := RX6) (T := TX6) (N := 23) (v := .int (h 0 8)) 0 (by decide) rfl rfl 8 (by decide) wnX6 wl62 rfl rfl dX6_send_1 ?_
  refine xr_bipush C (v := 64) dX6_send_4 (by decide +kernel) ?_
  refine xr_icmp_ge C 19 dX6_send_6 (by decide) (fun cd1 => ?_) (fun cd1 => ?_)
  · rw [if_pos cd1] at hf
    refine xr_aload_n C dX6_send_19 0 rfl rfl ?_
    refine xr_dup C dX6_send_20 rfl ?_
    refine xr_get C (ci := 6) (Cn := RX6) (T := TX6) (N := 23) (v := .int (h 0 8)) 0 (by decide) rfl rfl 8 (by decide) wnX6 wl62 rfl rfl dX6_send_21 ?_
    refine xr_iconst C (v := 1) dX6_send_24 (by decide +kernel) ?_
    refine xr_iadd C dX6_send_25 ?_
    refine xr_put C (ci := 6) (Cn := RX6) (T := TX6) (N := 23) (ty := .int) (v := ((h 0 8) + 1)) 0 (by decide) rfl rfl 8 (by decide) wnX6 wl62 rfl tyX6 tyX6_ok nmX6 rfl (by decide +kernel) rfl rfl (Nat.le_of_ble_eq_true rfl) rfl dX6_send_26 ?_
    cases hf
    exact xr_vret C hlk hr dX6_send_29
  · rw [if_neg cd1] at hf
    refine xr_aload_n C dX6_send_9 0 rfl rfl ?_
    refine xr_get C (ci := 6) (Cn := RX6) (T := TX6) (N := 23) (v := .ref (a 4)) 0 (by decide) rfl rfl 7 (by decide) wnX6 wl19 rfl rfl dX6_send_10 ?_
    refine xr_aload_n C dX6_send_13 0 rfl rfl ?_
    refine xr_get C (ci := 6) (Cn := RX6) (T := TX6) (N := 23) (v := .int (h 0 8)) 0 (by decide) rfl rfl 8 (by decide) wnX6 wl62 rfl rfl dX6_send_14 ?_
    refine xr_iload_n C dX6_send_17 1 rfl rfl ?_
    obtain ⟨gg2, hf⟩ := gd_some hf
    refine xr_iast C 4 (by decide) 0 (fun _ => rfl) rfl gg2 dX6_send_18 ?_
    refine xr_aload_n C dX6_send_19 0 rfl rfl ?_
    refine xr_dup C dX6_send_20 rfl ?_
    refine xr_get C (ci := 6) (Cn := RX6) (T := TX6) (N := 23) (v := .int (h 0 8)) 0 (by decide) rfl rfl 8 (by decide) wnX6 wl62 rfl rfl dX6_send_21 ?_
    refine xr_iconst C (v := 1) dX6_send_24 (by decide +kernel) ?_
    refine xr_iadd C dX6_send_25 ?_
    refine xr_put C (ci := 6) (Cn := RX6) (T := TX6) (N := 23) (ty := .int) (v := ((h 0 8) + 1)) 0 (by decide) rfl rfl 8 (by decide) wnX6 wl62 rfl tyX6 tyX6_ok nmX6 rfl (by decide +kernel) rfl rfl (Nat.le_of_ble_eq_true rfl) rfl dX6_send_26 ?_
    cases hf
    exact xr_vret C hlk hr dX6_send_29
def f_X6_write (h : hp) (x1 : Int32) (x2 : Int32) : Option hp := gd (¬ (x1 < 0 ∨ 512 ≤ x1.toNatClampNeg)) (gd (¬ ((x1 / 16) < 0 ∨ 32 ≤ (x1 / 16).toNatClampNeg)) (some (u2 (u2 h 2 x1.toNatClampNeg x2) 9 (x1 / 16).toNatClampNeg 1)))
abbrev rmX6_write : Room := { frames := 0, cells := 0, slots := 0, locals := 0 }
set_option maxHeartbeats 4000000 in
set_option maxRecDepth 100000 in
theorem c_X6_write (l : Launch) (dC : Nat → ClassId) (dI : Nat → Nat → Nat) (cI cZ : ClassId) (a : Nat → Nat) (hD : xD 11 a) (h : hp) (x1 : Int32) (x2 : Int32) {h9 : hp} (hf : f_X6_write h x1 x2 = some h9) : XMv l yX6_write wsX6_write rmX6_write (dC, dI) vwCl (mty cI cZ) 11 a (mcf cI cZ a) h [.ref (a 0), .int x1, .int x2] h9 := by
  refine xm_v (cc := cX6_write) (maxL := 3) (ws' := wsX6_write.tail) (by decide) rfl hD (Nat.le_of_ble_eq_true rfl) [(0, .ref (a 0)), (1, .int x1), (2, .int x2)] rfl RX6 rfl ?_
  intro p e s m args below meth c C hlk hr
  have wl13 : Cond.fieldLink RX6 13 "RewindBoxModel" "memory" "[I" ∈ wsX6_write := by decide +kernel
  have wnX6 : ∀ w ∈ u_ws RX6 TX6 23, w ∈ wsX6_write := by decide +kernel
  have wl34 : Cond.fieldLink RX6 34 "RewindBoxModel" "written" "[Z" ∈ wsX6_write := by decide +kernel
  unfold f_X6_write at hf
  refine xr_aload_n C dX6_write_0 0 rfl rfl ?_
  refine xr_get C (ci := 6) (Cn := RX6) (T := TX6) (N := 23) (v := .ref (a 2)) 0 (by decide) rfl rfl 2 (by decide) wnX6 wl13 rfl rfl dX6_write_1 ?_
  refine xr_iload_n C dX6_write_4 1 rfl rfl ?_
  refine xr_iload_n C dX6_write_5 2 rfl rfl ?_
  obtain ⟨gg1, hf⟩ := gd_some hf
  refine xr_iast C 2 (by decide) 0 (fun _ => rfl) rfl gg1 dX6_write_6 ?_
  refine xr_aload_n C dX6_write_7 0 rfl rfl ?_
  refine xr_get C (ci := 6) (Cn := RX6) (T := TX6) (N := 23) (v := .ref (a 9)) 0 (by decide) rfl rfl 19 (by decide) wnX6 wl34 rfl rfl dX6_write_8 ?_
  refine xr_iload_n C dX6_write_11 1 rfl rfl ?_
  refine xr_bipush C (v := 16) dX6_write_12 (by decide +kernel) ?_
  refine xr_idiv C dX6_write_14 (by decide) ?_
  refine xr_iconst C (v := 1) dX6_write_15 (by decide +kernel) ?_
  obtain ⟨gg2, hf⟩ := gd_some hf
  refine xr_zast C 9 (by decide) 1 (fun _ => rfl) rfl (by decide +kernel) gg2 dX6_write_16 ?_
  cases hf
  exact xr_vret C hlk hr dX6_write_17
def f_X6_work (h : hp) (x1 : Int32) (x2 : Int32) : Option hp := gl ((x1 >>> (16 &&& 31)) &&& 7) (fun v1 => gd (¬ (((x1 >>> (8 &&& 31)) &&& 7) < 0 ∨ 8 ≤ ((x1 >>> (8 &&& 31)) &&& 7).toNatClampNeg)) (gl (h 3 ((x1 >>> (8 &&& 31)) &&& 7).toNatClampNeg) (fun v3 => gd (¬ ((x1 &&& 7) < 0 ∨ 8 ≤ (x1 &&& 7).toNatClampNeg)) (gl (h 3 (x1 &&& 7).toNatClampNeg) (fun v5 => if ((x1.toUInt32 >>> ((24 : Int32).toUInt32 &&& Int32.toUInt32 31)).toInt32) = 1 then (gd (¬ (v1 < 0 ∨ 8 ≤ v1.toNatClampNeg)) (some (u2 h 3 v1.toNatClampNeg (v3 + v5)))) else (if ((x1.toUInt32 >>> ((24 : Int32).toUInt32 &&& Int32.toUInt32 31)).toInt32) = 2 then (gd (¬ (v1 < 0 ∨ 8 ≤ v1.toNatClampNeg)) (some (u2 h 3 v1.toNatClampNeg (v3 - v5)))) else (if ((x1.toUInt32 >>> ((24 : Int32).toUInt32 &&& Int32.toUInt32 31)).toInt32) = 3 then (gd (¬ (v1 < 0 ∨ 8 ≤ v1.toNatClampNeg)) (some (u2 h 3 v1.toNatClampNeg (v3 * v5)))) else (if ((x1.toUInt32 >>> ((24 : Int32).toUInt32 &&& Int32.toUInt32 31)).toInt32) = 4 then (gd (¬ (v1 < 0 ∨ 8 ≤ v1.toNatClampNeg)) (some (u2 h 3 v1.toNatClampNeg (v3 &&& v5)))) else (if ((x1.toUInt32 >>> ((24 : Int32).toUInt32 &&& Int32.toUInt32 31)).toInt32) = 5 then (gd (¬ (v1 < 0 ∨ 8 ≤ v1.toNatClampNeg)) (some (u2 h 3 v1.toNatClampNeg (v3 ^^^ v5)))) else (if ((x1.toUInt32 >>> ((24 : Int32).toUInt32 &&& Int32.toUInt32 31)).toInt32) = 6 then (gd (¬ (v1 < 0 ∨ 8 ≤ v1.toNatClampNeg)) (some (u2 h 3 v1.toNatClampNeg x1.toInt16.toInt32))) else (if ((x1.toUInt32 >>> ((24 : Int32).toUInt32 &&& Int32.toUInt32 31)).toInt32) = 7 then (bR (f_X6_meant h x1) (fun rr20 => gd (¬ (rr20 < 0 ∨ 512 ≤ rr20.toNatClampNeg)) (gd (¬ (v1 < 0 ∨ 8 ≤ v1.toNatClampNeg)) (some (u2 h 3 v1.toNatClampNeg (h 2 rr20.toNatClampNeg)))))) else (if ((x1.toUInt32 >>> ((24 : Int32).toUInt32 &&& Int32.toUInt32 31)).toInt32) = 8 then (bR (f_X6_meant h x1) (fun rr25 => gd (¬ (v1 < 0 ∨ 8 ≤ v1.toNatClampNeg)) (bV (f_X6_write h rr25 (h 3 v1.toNatClampNeg)) (fun hh28 => some hh28)))) else (if ((x1.toUInt32 >>> ((24 : Int32).toUInt32 &&& Int32.toUInt32 31)).toInt32) = 9 then (some h) else (if ((x1.toUInt32 >>> ((24 : Int32).toUInt32 &&& Int32.toUInt32 31)).toInt32) = 10 then (some h) else (if ((x1.toUInt32 >>> ((24 : Int32).toUInt32 &&& Int32.toUInt32 31)).toInt32) = 11 then (some h) else (if ((x1.toUInt32 >>> ((24 : Int32).toUInt32 &&& Int32.toUInt32 31)).toInt32) = 12 then (gd (¬ (v1 < 0 ∨ 8 ≤ v1.toNatClampNeg)) (some (u2 h 3 v1.toNatClampNeg x2))) else (if ((x1.toUInt32 >>> ((24 : Int32).toUInt32 &&& Int32.toUInt32 31)).toInt32) = 13 then (gd (¬ (v1 < 0 ∨ 8 ≤ v1.toNatClampNeg)) (bV (f_X6_send h (h 3 v1.toNatClampNeg)) (fun hh37 => some hh37))) else (if ((x1.toUInt32 >>> ((24 : Int32).toUInt32 &&& Int32.toUInt32 31)).toInt32) = 14 then (gd (¬ (v1 < 0 ∨ 8 ≤ v1.toNatClampNeg)) (some (u2 h 3 v1.toNatClampNeg (h 0 10)))) else (some h)))))))))))))))))))
abbrev rmX6_work : Room := { frames := 1, cells := 0, slots := 0, locals := 22 }
set_option maxHeartbeats 4000000 in
set_option maxRecDepth 100000 in
theorem c_X6_work (l : Launch) (dC : Nat → ClassId) (dI : Nat → Nat → Nat) (cI cZ : ClassId) (a : Nat → Nat) (hD : xD 11 a) (h : hp) (x1 : Int32) (x2 : Int32) {h9 : hp} (hf : f_X6_work h x1 x2 = some h9) : XMv l yX6_work wsX6_work rmX6_work (dC, dI) vwCl (mty cI cZ) 11 a (mcf cI cZ a) h [.ref (a 0), .int x1, .int x2] h9 := by
  refine xm_v (cc := cX6_work) (maxL := 6) (ws' := wsX6_work.tail) (by decide) rfl hD (Nat.le_of_ble_eq_true rfl) [(0, .ref (a 0)), (1, .int x1), (2, .int x2)] rfl RX6 rfl ?_
  intro p e s m args below meth c C hlk hr
  have wl16 : Cond.fieldLink RX6 16 "RewindBoxModel" "registers" "[I" ∈ wsX6_work := by decide +kernel
  have wnX6 : ∀ w ∈ u_ws RX6 TX6 23, w ∈ wsX6_work := by decide +kernel
  have wl13 : Cond.fieldLink RX6 13 "RewindBoxModel" "memory" "[I" ∈ wsX6_work := by decide +kernel
  have wl65 : Cond.fieldLink RX6 65 "RewindBoxModel" "position" "I" ∈ wsX6_work := by decide +kernel
  unfold f_X6_work at hf
  refine xr_iload_n C dX6_work_0 1 rfl rfl ?_
  refine xr_bipush C (v := 16) dX6_work_1 (by decide +kernel) ?_
  refine xr_ishr C dX6_work_3 ?_
  refine xr_bipush C (v := 7) dX6_work_4 (by decide +kernel) ?_
  refine xr_iand C dX6_work_6 ?_
  refine xr_topi C (fun v1 ev1 => ?_)
  have hf := gl_at hf v1 ev1
  refine xr_istore_n C [(3, .int v1), (0, .ref (a 0)), (1, .int x1), (2, .int x2)] dX6_work_7 rfl (by decide) rfl ?_
  refine xr_aload_n C dX6_work_8 1 rfl rfl ?_
  refine xr_get C (ci := 6) (Cn := RX6) (T := TX6) (N := 23) (v := .ref (a 3)) 0 (by decide) rfl rfl 3 (by decide) wnX6 wl16 rfl rfl dX6_work_9 ?_
  refine xr_iload_n C dX6_work_12 2 rfl rfl ?_
  refine xr_bipush C (v := 8) dX6_work_13 (by decide +kernel) ?_
  refine xr_ishr C dX6_work_15 ?_
  refine xr_bipush C (v := 7) dX6_work_16 (by decide +kernel) ?_
  refine xr_iand C dX6_work_18 ?_
  obtain ⟨gg2, hf⟩ := gd_some hf
  refine xr_iald C (v := h 3 ((x1 >>> (8 &&& 31)) &&& 7).toNatClampNeg) 3 (by decide) 0 rfl rfl gg2 rfl dX6_work_19 ?_
  refine xr_topi C (fun v3 ev3 => ?_)
  have hf := gl_at hf v3 ev3
  refine xr_istore C [(4, .int v3), (3, .int v1), (0, .ref (a 0)), (1, .int x1), (2, .int x2)] dX6_work_20 (by decide) rfl ?_
  refine xr_aload_n C dX6_work_22 2 rfl rfl ?_
  refine xr_get C (ci := 6) (Cn := RX6) (T := TX6) (N := 23) (v := .ref (a 3)) 0 (by decide) rfl rfl 3 (by decide) wnX6 wl16 rfl rfl dX6_work_23 ?_
  refine xr_iload_n C dX6_work_26 3 rfl rfl ?_
  refine xr_bipush C (v := 7) dX6_work_27 (by decide +kernel) ?_
  refine xr_iand C dX6_work_29 ?_
  obtain ⟨gg4, hf⟩ := gd_some hf
  refine xr_iald C (v := h 3 (x1 &&& 7).toNatClampNeg) 3 (by decide) 0 rfl rfl gg4 rfl dX6_work_30 ?_
  refine xr_topi C (fun v5 ev5 => ?_)
  have hf := gl_at hf v5 ev5
  refine xr_istore C [(5, .int v5), (4, .int v3), (3, .int v1), (0, .ref (a 0)), (1, .int x1), (2, .int x2)] dX6_work_31 (by decide) rfl ?_
  refine xr_iload_n C dX6_work_33 4 rfl rfl ?_
  refine xr_bipush C (v := 24) dX6_work_34 (by decide +kernel) ?_
  refine xr_iushr C dX6_work_36 ?_
  by_cases cd6 : ((x1.toUInt32 >>> ((24 : Int32).toUInt32 &&& Int32.toUInt32 31)).toInt32) = 1
  · rw [if_pos cd6] at hf
    refine xr_tableIn C 108 1 dX6_work_37 (by rw [cd6]; decide) (by decide) (by decide) rfl (by decide) ?_
    refine xr_aload_n C dX6_work_108 3 rfl rfl ?_
    refine xr_get C (ci := 6) (Cn := RX6) (T := TX6) (N := 23) (v := .ref (a 3)) 0 (by decide) rfl rfl 3 (by decide) wnX6 wl16 rfl rfl dX6_work_109 ?_
    refine xr_iload_n C dX6_work_112 2 rfl rfl ?_
    refine xr_iload C dX6_work_113 1 rfl ?_
    refine xr_iload C dX6_work_115 0 rfl ?_
    refine xr_iadd C dX6_work_117 ?_
    obtain ⟨gg7, hf⟩ := gd_some hf
    refine xr_iast C 3 (by decide) 0 (fun _ => rfl) rfl gg7 dX6_work_118 ?_
    refine xr_goto C 262 dX6_work_119 (by decide) ?_
    cases hf
    exact xr_vret C hlk hr dX6_work_262
  rw [if_neg cd6] at hf
  by_cases cd8 : ((x1.toUInt32 >>> ((24 : Int32).toUInt32 &&& Int32.toUInt32 31)).toInt32) = 2
  · rw [if_pos cd8] at hf
    refine xr_tableIn C 122 2 dX6_work_37 (by rw [cd8]; decide) (by decide) (by decide) rfl (by decide) ?_
    refine xr_aload_n C dX6_work_122 3 rfl rfl ?_
    refine xr_get C (ci := 6) (Cn := RX6) (T := TX6) (N := 23) (v := .ref (a 3)) 0 (by decide) rfl rfl 3 (by decide) wnX6 wl16 rfl rfl dX6_work_123 ?_
    refine xr_iload_n C dX6_work_126 2 rfl rfl ?_
    refine xr_iload C dX6_work_127 1 rfl ?_
    refine xr_iload C dX6_work_129 0 rfl ?_
    refine xr_isub C dX6_work_131 ?_
    obtain ⟨gg9, hf⟩ := gd_some hf
    refine xr_iast C 3 (by decide) 0 (fun _ => rfl) rfl gg9 dX6_work_132 ?_
    refine xr_goto C 262 dX6_work_133 (by decide) ?_
    cases hf
    exact xr_vret C hlk hr dX6_work_262
  rw [if_neg cd8] at hf
  by_cases cd10 : ((x1.toUInt32 >>> ((24 : Int32).toUInt32 &&& Int32.toUInt32 31)).toInt32) = 3
  · rw [if_pos cd10] at hf
    refine xr_tableIn C 136 3 dX6_work_37 (by rw [cd10]; decide) (by decide) (by decide) rfl (by decide) ?_
    refine xr_aload_n C dX6_work_136 3 rfl rfl ?_
    refine xr_get C (ci := 6) (Cn := RX6) (T := TX6) (N := 23) (v := .ref (a 3)) 0 (by decide) rfl rfl 3 (by decide) wnX6 wl16 rfl rfl dX6_work_137 ?_
    refine xr_iload_n C dX6_work_140 2 rfl rfl ?_
    refine xr_iload C dX6_work_141 1 rfl ?_
    refine xr_iload C dX6_work_143 0 rfl ?_
    refine xr_imul C dX6_work_145 ?_
    obtain ⟨gg11, hf⟩ := gd_some hf
    refine xr_iast C 3 (by decide) 0 (fun _ => rfl) rfl gg11 dX6_work_146 ?_
    refine xr_goto C 262 dX6_work_147 (by decide) ?_
    cases hf
    exact xr_vret C hlk hr dX6_work_262
  rw [if_neg cd10] at hf
  by_cases cd12 : ((x1.toUInt32 >>> ((24 : Int32).toUInt32 &&& Int32.toUInt32 31)).toInt32) = 4
  · rw [if_pos cd12] at hf
    refine xr_tableIn C 150 4 dX6_work_37 (by rw [cd12]; decide) (by decide) (by decide) rfl (by decide) ?_
    refine xr_aload_n C dX6_work_150 3 rfl rfl ?_
    refine xr_get C (ci := 6) (Cn := RX6) (T := TX6) (N := 23) (v := .ref (a 3)) 0 (by decide) rfl rfl 3 (by decide) wnX6 wl16 rfl rfl dX6_work_151 ?_
    refine xr_iload_n C dX6_work_154 2 rfl rfl ?_
    refine xr_iload C dX6_work_155 1 rfl ?_
    refine xr_iload C dX6_work_157 0 rfl ?_
    refine xr_iand C dX6_work_159 ?_
    obtain ⟨gg13, hf⟩ := gd_some hf
    refine xr_iast C 3 (by decide) 0 (fun _ => rfl) rfl gg13 dX6_work_160 ?_
    refine xr_goto C 262 dX6_work_161 (by decide) ?_
    cases hf
    exact xr_vret C hlk hr dX6_work_262
  rw [if_neg cd12] at hf
  by_cases cd14 : ((x1.toUInt32 >>> ((24 : Int32).toUInt32 &&& Int32.toUInt32 31)).toInt32) = 5
  · rw [if_pos cd14] at hf
    refine xr_tableIn C 164 5 dX6_work_37 (by rw [cd14]; decide) (by decide) (by decide) rfl (by decide) ?_
    refine xr_aload_n C dX6_work_164 3 rfl rfl ?_
    refine xr_get C (ci := 6) (Cn := RX6) (T := TX6) (N := 23) (v := .ref (a 3)) 0 (by decide) rfl rfl 3 (by decide) wnX6 wl16 rfl rfl dX6_work_165 ?_
    refine xr_iload_n C dX6_work_168 2 rfl rfl ?_
    refine xr_iload C dX6_work_169 1 rfl ?_
    refine xr_iload C dX6_work_171 0 rfl ?_
    refine xr_ixor C dX6_work_173 ?_
    obtain ⟨gg15, hf⟩ := gd_some hf
    refine xr_iast C 3 (by decide) 0 (fun _ => rfl) rfl gg15 dX6_work_174 ?_
    refine xr_goto C 262 dX6_work_175 (by decide) ?_
    cases hf
    exact xr_vret C hlk hr dX6_work_262
  rw [if_neg cd14] at hf
  by_cases cd16 : ((x1.toUInt32 >>> ((24 : Int32).toUInt32 &&& Int32.toUInt32 31)).toInt32) = 6
  · rw [if_pos cd16] at hf
    refine xr_tableIn C 178 6 dX6_work_37 (by rw [cd16]; decide) (by decide) (by decide) rfl (by decide) ?_
    refine xr_aload_n C dX6_work_178 3 rfl rfl ?_
    refine xr_get C (ci := 6) (Cn := RX6) (T := TX6) (N := 23) (v := .ref (a 3)) 0 (by decide) rfl rfl 3 (by decide) wnX6 wl16 rfl rfl dX6_work_179 ?_
    refine xr_iload_n C dX6_work_182 2 rfl rfl ?_
    refine xr_iload_n C dX6_work_183 4 rfl rfl ?_
    refine xr_i2s C dX6_work_184 ?_
    obtain ⟨gg17, hf⟩ := gd_some hf
    refine xr_iast C 3 (by decide) 0 (fun _ => rfl) rfl gg17 dX6_work_185 ?_
    refine xr_goto C 262 dX6_work_186 (by decide) ?_
    cases hf
    exact xr_vret C hlk hr dX6_work_262
  rw [if_neg cd16] at hf
  by_cases cd18 : ((x1.toUInt32 >>> ((24 : Int32).toUInt32 &&& Int32.toUInt32 31)).toInt32) = 7
  · rw [if_pos cd18] at hf
    refine xr_tableIn C 189 7 dX6_work_37 (by rw [cd18]; decide) (by decide) (by decide) rfl (by decide) ?_
    refine xr_aload_n C dX6_work_189 3 rfl rfl ?_
    refine xr_get C (ci := 6) (Cn := RX6) (T := TX6) (N := 23) (v := .ref (a 3)) 0 (by decide) rfl rfl 3 (by decide) wnX6 wl16 rfl rfl dX6_work_190 ?_
    refine xr_iload_n C dX6_work_193 2 rfl rfl ?_
    refine xr_aload_n C dX6_work_194 3 rfl rfl ?_
    refine xr_get C (ci := 6) (Cn := RX6) (T := TX6) (N := 23) (v := .ref (a 2)) 0 (by decide) rfl rfl 2 (by decide) wnX6 wl13 rfl rfl dX6_work_195 ?_
    refine xr_aload_n C dX6_work_198 3 rfl rfl ?_
    refine xr_iload_n C dX6_work_199 4 rfl rfl ?_
    obtain ⟨rr20, ee19, hf⟩ := bR_some hf
    refine xr_callVi C (Cn := RX6) 0 (by decide) rfl rfl [.int x1] [.ref (a 2), .int v1, .ref (a 3)] (c_X6_meant l dC dI cI cZ a hD h x1 ee19) (cwV 1 C.2.2.1 gX6_work_X6_meant rfl rfl rfl (by decide +kernel) ⟨Nat.le_of_ble_eq_true rfl, Nat.le_of_ble_eq_true rfl⟩) rfl rfl (Nat.le_of_ble_eq_true rfl) dX6_work_200 ?_
    obtain ⟨gg21, hf⟩ := gd_some hf
    refine xr_iald C (v := h 2 rr20.toNatClampNeg) 2 (by decide) 0 rfl rfl gg21 rfl dX6_work_203 ?_
    obtain ⟨gg22, hf⟩ := gd_some hf
    refine xr_iast C 3 (by decide) 0 (fun _ => rfl) rfl gg22 dX6_work_204 ?_
    refine xr_goto C 262 dX6_work_205 (by decide) ?_
    cases hf
    exact xr_vret C hlk hr dX6_work_262
  rw [if_neg cd18] at hf
  by_cases cd23 : ((x1.toUInt32 >>> ((24 : Int32).toUInt32 &&& Int32.toUInt32 31)).toInt32) = 8
  · rw [if_pos cd23] at hf
    refine xr_tableIn C 208 8 dX6_work_37 (by rw [cd23]; decide) (by decide) (by decide) rfl (by decide) ?_
    refine xr_aload_n C dX6_work_208 3 rfl rfl ?_
    refine xr_aload_n C dX6_work_209 3 rfl rfl ?_
    refine xr_iload_n C dX6_work_210 4 rfl rfl ?_
    obtain ⟨rr25, ee24, hf⟩ := bR_some hf
    refine xr_callVi C (Cn := RX6) 0 (by decide) rfl rfl [.int x1] [.ref (a 0)] (c_X6_meant l dC dI cI cZ a hD h x1 ee24) (cwV 1 C.2.2.1 gX6_work_X6_meant rfl rfl rfl (by decide +kernel) ⟨Nat.le_of_ble_eq_true rfl, Nat.le_of_ble_eq_true rfl⟩) rfl rfl (Nat.le_of_ble_eq_true rfl) dX6_work_211 ?_
    refine xr_aload_n C dX6_work_214 3 rfl rfl ?_
    refine xr_get C (ci := 6) (Cn := RX6) (T := TX6) (N := 23) (v := .ref (a 3)) 0 (by decide) rfl rfl 3 (by decide) wnX6 wl16 rfl rfl dX6_work_215 ?_
    refine xr_iload_n C dX6_work_218 2 rfl rfl ?_
    obtain ⟨gg26, hf⟩ := gd_some hf
    refine xr_iald C (v := h 3 v1.toNatClampNeg) 3 (by decide) 0 rfl rfl gg26 rfl dX6_work_219 ?_
    obtain ⟨hh28, ee27, hf⟩ := bV_some hf
    refine xr_callVv C (Cn := RX6) 0 (by decide) rfl rfl [.int rr25, .int (h 3 v1.toNatClampNeg)] [] (c_X6_write l dC dI cI cZ a hD h rr25 (h 3 v1.toNatClampNeg) ee27) (cwV 2 C.2.2.1 gX6_work_X6_write rfl rfl rfl (by decide +kernel) ⟨Nat.le_of_ble_eq_true rfl, Nat.le_of_ble_eq_true rfl⟩) rfl rfl (Nat.le_of_ble_eq_true rfl) dX6_work_220 ?_
    refine xr_goto C 262 dX6_work_223 (by decide) ?_
    cases hf
    exact xr_vret C hlk hr dX6_work_262
  rw [if_neg cd23] at hf
  by_cases cd29 : ((x1.toUInt32 >>> ((24 : Int32).toUInt32 &&& Int32.toUInt32 31)).toInt32) = 9
  · rw [if_pos cd29] at hf
    refine xr_tableIn C 262 9 dX6_work_37 (by rw [cd29]; decide) (by decide) (by decide) rfl (by decide) ?_
    cases hf
    exact xr_vret C hlk hr dX6_work_262
  rw [if_neg cd29] at hf
  by_cases cd30 : ((x1.toUInt32 >>> ((24 : Int32).toUInt32 &&& Int32.toUInt32 31)).toInt32) = 10
  · rw [if_pos cd30] at hf
    refine xr_tableIn C 262 10 dX6_work_37 (by rw [cd30]; decide) (by decide) (by decide) rfl (by decide) ?_
    cases hf
    exact xr_vret C hlk hr dX6_work_262
  rw [if_neg cd30] at hf
  by_cases cd31 : ((x1.toUInt32 >>> ((24 : Int32).toUInt32 &&& Int32.toUInt32 31)).toInt32) = 11
  · rw [if_pos cd31] at hf
    refine xr_tableIn C 262 11 dX6_work_37 (by rw [cd31]; decide) (by decide) (by decide) rfl (by decide) ?_
    cases hf
    exact xr_vret C hlk hr dX6_work_262
  rw [if_neg cd31] at hf
  by_cases cd32 : ((x1.toUInt32 >>> ((24 : Int32).toUInt32 &&& Int32.toUInt32 31)).toInt32) = 12
  · rw [if_pos cd32] at hf
    refine xr_tableIn C 226 12 dX6_work_37 (by rw [cd32]; decide) (by decide) (by decide) rfl (by decide) ?_
    refine xr_aload_n C dX6_work_226 3 rfl rfl ?_
    refine xr_get C (ci := 6) (Cn := RX6) (T := TX6) (N := 23) (v := .ref (a 3)) 0 (by decide) rfl rfl 3 (by decide) wnX6 wl16 rfl rfl dX6_work_227 ?_
    refine xr_iload_n C dX6_work_230 2 rfl rfl ?_
    refine xr_iload_n C dX6_work_231 5 rfl rfl ?_
    obtain ⟨gg33, hf⟩ := gd_some hf
    refine xr_iast C 3 (by decide) 0 (fun _ => rfl) rfl gg33 dX6_work_232 ?_
    refine xr_goto C 262 dX6_work_233 (by decide) ?_
    cases hf
    exact xr_vret C hlk hr dX6_work_262
  rw [if_neg cd32] at hf
  by_cases cd34 : ((x1.toUInt32 >>> ((24 : Int32).toUInt32 &&& Int32.toUInt32 31)).toInt32) = 13
  · rw [if_pos cd34] at hf
    refine xr_tableIn C 236 13 dX6_work_37 (by rw [cd34]; decide) (by decide) (by decide) rfl (by decide) ?_
    refine xr_aload_n C dX6_work_236 3 rfl rfl ?_
    refine xr_aload_n C dX6_work_237 3 rfl rfl ?_
    refine xr_get C (ci := 6) (Cn := RX6) (T := TX6) (N := 23) (v := .ref (a 3)) 0 (by decide) rfl rfl 3 (by decide) wnX6 wl16 rfl rfl dX6_work_238 ?_
    refine xr_iload_n C dX6_work_241 2 rfl rfl ?_
    obtain ⟨gg35, hf⟩ := gd_some hf
    refine xr_iald C (v := h 3 v1.toNatClampNeg) 3 (by decide) 0 rfl rfl gg35 rfl dX6_work_242 ?_
    obtain ⟨hh37, ee36, hf⟩ := bV_some hf
    refine xr_callVv C (Cn := RX6) 0 (by decide) rfl rfl [.int (h 3 v1.toNatClampNeg)] [] (c_X6_send l dC dI cI cZ a hD h (h 3 v1.toNatClampNeg) ee36) (cwV 1 C.2.2.1 gX6_work_X6_send rfl rfl rfl (by decide +kernel) ⟨Nat.le_of_ble_eq_true rfl, Nat.le_of_ble_eq_true rfl⟩) rfl rfl (Nat.le_of_ble_eq_true rfl) dX6_work_243 ?_
    refine xr_goto C 262 dX6_work_246 (by decide) ?_
    cases hf
    exact xr_vret C hlk hr dX6_work_262
  rw [if_neg cd34] at hf
  by_cases cd38 : ((x1.toUInt32 >>> ((24 : Int32).toUInt32 &&& Int32.toUInt32 31)).toInt32) = 14
  · rw [if_pos cd38] at hf
    refine xr_tableIn C 249 14 dX6_work_37 (by rw [cd38]; decide) (by decide) (by decide) rfl (by decide) ?_
    refine xr_aload_n C dX6_work_249 3 rfl rfl ?_
    refine xr_get C (ci := 6) (Cn := RX6) (T := TX6) (N := 23) (v := .ref (a 3)) 0 (by decide) rfl rfl 3 (by decide) wnX6 wl16 rfl rfl dX6_work_250 ?_
    refine xr_iload_n C dX6_work_253 2 rfl rfl ?_
    refine xr_aload_n C dX6_work_254 3 rfl rfl ?_
    refine xr_get C (ci := 6) (Cn := RX6) (T := TX6) (N := 23) (v := .int (h 0 10)) 0 (by decide) rfl rfl 10 (by decide) wnX6 wl65 rfl rfl dX6_work_255 ?_
    obtain ⟨gg39, hf⟩ := gd_some hf
    refine xr_iast C 3 (by decide) 0 (fun _ => rfl) rfl gg39 dX6_work_258 ?_
    refine xr_goto C 262 dX6_work_259 (by decide) ?_
    cases hf
    exact xr_vret C hlk hr dX6_work_262
  rw [if_neg cd38] at hf
  refine xr_tableOut C 262 dX6_work_37 (by have qcd6 := lv_neT cd6 (show Int32.toInt 1 = 1 from by decide); have qcd8 := lv_neT cd8 (show Int32.toInt 2 = 2 from by decide); have qcd10 := lv_neT cd10 (show Int32.toInt 3 = 3 from by decide); have qcd12 := lv_neT cd12 (show Int32.toInt 4 = 4 from by decide); have qcd14 := lv_neT cd14 (show Int32.toInt 5 = 5 from by decide); have qcd16 := lv_neT cd16 (show Int32.toInt 6 = 6 from by decide); have qcd18 := lv_neT cd18 (show Int32.toInt 7 = 7 from by decide); have qcd23 := lv_neT cd23 (show Int32.toInt 8 = 8 from by decide); have qcd29 := lv_neT cd29 (show Int32.toInt 9 = 9 from by decide); have qcd30 := lv_neT cd30 (show Int32.toInt 10 = 10 from by decide); have qcd31 := lv_neT cd31 (show Int32.toInt 11 = 11 from by decide); have qcd32 := lv_neT cd32 (show Int32.toInt 12 = 12 from by decide); have qcd34 := lv_neT cd34 (show Int32.toInt 13 = 13 from by decide); have qcd38 := lv_neT cd38 (show Int32.toInt 14 = 14 from by decide); omega) (by decide) ?_
  cases hf
  exact xr_vret C hlk hr dX6_work_262
end
section
def f_X6_move_130 (h : hp) (x3 : Int32) : Option hp := if x3 = 17 then (some (u2 h 0 6 0)) else (some h)
def f_X6_move_113 (h : hp) (x3 : Int32) : Option hp := if x3 = 15 then (f_X6_move_130 (u2 h 0 6 1) x3) else (if x3 = 16 then (f_X6_move_130 (u2 h 0 6 1) x3) else (f_X6_move_130 h x3))
def f_X6_move_98 (h : hp) (x2 : Int32) (x3 : Int32) : Option hp := if x3 = 18 then (f_X6_move_113 (u2 h 0 4 (x2 &&& 511)) x3) else (f_X6_move_113 h x3)
def f_X6_move_84 (h : hp) (x2 : Int32) (x3 : Int32) : Option hp := if x3 = 15 then (f_X6_move_98 (u2 h 0 4 (h 0 5)) x2 x3) else (f_X6_move_98 h x2 x3)
def f_X6_move (h : hp) (x1 : Int32) : Option hp := gd (¬ (((x1 >>> (16 &&& 31)) &&& 7) < 0 ∨ 8 ≤ ((x1 >>> (16 &&& 31)) &&& 7).toNatClampNeg)) (gl (h 3 ((x1 >>> (16 &&& 31)) &&& 7).toNatClampNeg) (fun v2 => gl ((x1.toUInt32 >>> ((24 : Int32).toUInt32 &&& Int32.toUInt32 31)).toInt32) (fun v3 => if v3 = 9 then (f_X6_move_84 (u2 (u2 h 0 4 (((h 0 4) + 1) &&& 511)) 0 4 (x1.toInt16.toInt32 &&& 511)) v2 v3) else (if v3 = 10 then (if v2 = 0 then (f_X6_move_84 (u2 (u2 h 0 4 (((h 0 4) + 1) &&& 511)) 0 4 (x1.toInt16.toInt32 &&& 511)) v2 v3) else (if v3 = 11 then (if 0 ≤ v2 then (f_X6_move_84 (u2 h 0 4 (((h 0 4) + 1) &&& 511)) v2 v3) else (f_X6_move_84 (u2 (u2 h 0 4 (((h 0 4) + 1) &&& 511)) 0 4 (x1.toInt16.toInt32 &&& 511)) v2 v3)) else (f_X6_move_84 (u2 h 0 4 (((h 0 4) + 1) &&& 511)) v2 v3))) else (if v3 = 11 then (if 0 ≤ v2 then (f_X6_move_84 (u2 h 0 4 (((h 0 4) + 1) &&& 511)) v2 v3) else (f_X6_move_84 (u2 (u2 h 0 4 (((h 0 4) + 1) &&& 511)) 0 4 (x1.toInt16.toInt32 &&& 511)) v2 v3)) else (f_X6_move_84 (u2 h 0 4 (((h 0 4) + 1) &&& 511)) v2 v3))))))
abbrev rmX6_move : Room := { frames := 0, cells := 0, slots := 0, locals := 0 }
set_option maxHeartbeats 4000000 in
set_option maxRecDepth 100000 in
theorem c_X6_move (l : Launch) (dC : Nat → ClassId) (dI : Nat → Nat → Nat) (cI cZ : ClassId) (a : Nat → Nat) (hD : xD 11 a) (h : hp) (x1 : Int32) {h9 : hp} (hf : f_X6_move h x1 = some h9) : XMv l yX6_move wsX6_move rmX6_move (dC, dI) vwCl (mty cI cZ) 11 a (mcf cI cZ a) h [.ref (a 0), .int x1] h9 := by
  refine xm_v (cc := cX6_move) (maxL := 6) (ws' := wsX6_move.tail) (by decide) rfl hD (Nat.le_of_ble_eq_true rfl) [(0, .ref (a 0)), (1, .int x1)] rfl RX6 rfl ?_
  intro p e s m args below meth c C hlk hr
  have wl16 : Cond.fieldLink RX6 16 "RewindBoxModel" "registers" "[I" ∈ wsX6_move := by decide +kernel
  have wnX6 : ∀ w ∈ u_ws RX6 TX6 23, w ∈ wsX6_move := by decide +kernel
  have wl53 : Cond.fieldLink RX6 53 "RewindBoxModel" "pc" "I" ∈ wsX6_move := by decide +kernel
  have wl59 : Cond.fieldLink RX6 59 "RewindBoxModel" "open" "Z" ∈ wsX6_move := by decide +kernel
  have wl56 : Cond.fieldLink RX6 56 "RewindBoxModel" "back" "I" ∈ wsX6_move := by decide +kernel
  have lab130 : ∀ (h : hp) (x3 : Int32) , f_X6_move_130 h x3 = some h9 → XJ p l e rmX6_move s m args below meth c (dC, dI) vwCl 11 a (mcf cI cZ a) 6 (MQ below (XQv (dC, dI) vwCl 11 a (mcf cI cZ a) h9) args s 0 0 (xA 11 a)) h [(0, .ref (a 0)), (3, .int x3)] [] 130 := by
    intro h x3  hf
    unfold f_X6_move_130 at hf
    refine xr_iload_n C dX6_move_130 1 rfl rfl ?_
    refine xr_bipush C (v := 17) dX6_move_131 (by decide +kernel) ?_
    refine xr_icmp_ne C 141 dX6_move_133 (by decide) (fun cd8 => ?_) (fun cd8 => ?_)
    · rw [if_neg cd8] at hf
      cases hf
      exact xr_vret C hlk hr dX6_move_141
    · rw [if_pos cd8] at hf
      refine xr_aload_n C dX6_move_136 0 rfl rfl ?_
      refine xr_iconst C (v := 0) dX6_move_137 (by decide +kernel) ?_
      refine xr_put C (ci := 6) (Cn := RX6) (T := TX6) (N := 23) (ty := .boolean) (v := 0) 0 (by decide) rfl rfl 6 (by decide) wnX6 wl59 rfl tyX6 tyX6_ok nmX6 rfl (by decide +kernel) (by decide +kernel) (by decide +kernel) (Nat.le_of_ble_eq_true rfl) rfl dX6_move_138 ?_
      cases hf
      exact xr_vret C hlk hr dX6_move_141
  have lab113 : ∀ (h : hp) (x3 : Int32) , f_X6_move_113 h x3 = some h9 → XJ p l e rmX6_move s m args below meth c (dC, dI) vwCl 11 a (mcf cI cZ a) 6 (MQ below (XQv (dC, dI) vwCl 11 a (mcf cI cZ a) h9) args s 0 0 (xA 11 a)) h [(0, .ref (a 0)), (3, .int x3)] [] 113 := by
    intro h x3  hf
    unfold f_X6_move_113 at hf
    refine xr_iload_n C dX6_move_113 1 rfl rfl ?_
    refine xr_bipush C (v := 15) dX6_move_114 (by decide +kernel) ?_
    refine xr_icmp_eq C 125 dX6_move_116 (by decide) (fun cd7 => ?_) (fun cd7 => ?_)
    · rw [if_pos cd7] at hf
      refine xr_aload_n C dX6_move_125 0 rfl rfl ?_
      refine xr_iconst C (v := 1) dX6_move_126 (by decide +kernel) ?_
      refine xr_put C (ci := 6) (Cn := RX6) (T := TX6) (N := 23) (ty := .boolean) (v := 1) 0 (by decide) rfl rfl 6 (by decide) wnX6 wl59 rfl tyX6 tyX6_ok nmX6 rfl (by decide +kernel) (by decide +kernel) (by decide +kernel) (Nat.le_of_ble_eq_true rfl) rfl dX6_move_127 ?_
      exact xr_sub C [0, 1] rfl (lab130 (u2 h 0 6 1) x3  hf)
    · rw [if_neg cd7] at hf
      refine xr_iload_n C dX6_move_119 1 rfl rfl ?_
      refine xr_bipush C (v := 16) dX6_move_120 (by decide +kernel) ?_
      refine xr_icmp_ne C 130 dX6_move_122 (by decide) (fun cd9 => ?_) (fun cd9 => ?_)
      · rw [if_neg cd9] at hf
        exact xr_sub C [0, 1] rfl (lab130 h x3  hf)
      · rw [if_pos cd9] at hf
        refine xr_aload_n C dX6_move_125 0 rfl rfl ?_
        refine xr_iconst C (v := 1) dX6_move_126 (by decide +kernel) ?_
        refine xr_put C (ci := 6) (Cn := RX6) (T := TX6) (N := 23) (ty := .boolean) (v := 1) 0 (by decide) rfl rfl 6 (by decide) wnX6 wl59 rfl tyX6 tyX6_ok nmX6 rfl (by decide +kernel) (by decide +kernel) (by decide +kernel) (Nat.le_of_ble_eq_true rfl) rfl dX6_move_127 ?_
        exact xr_sub C [0, 1] rfl (lab130 (u2 h 0 6 1) x3  hf)
  have lab98 : ∀ (h : hp) (x2 : Int32) (x3 : Int32) , f_X6_move_98 h x2 x3 = some h9 → XJ p l e rmX6_move s m args below meth c (dC, dI) vwCl 11 a (mcf cI cZ a) 6 (MQ below (XQv (dC, dI) vwCl 11 a (mcf cI cZ a) h9) args s 0 0 (xA 11 a)) h [(0, .ref (a 0)), (2, .int x2), (3, .int x3)] [] 98 := by
    intro h x2 x3  hf
    unfold f_X6_move_98 at hf
    refine xr_iload_n C dX6_move_98 2 rfl rfl ?_
    refine xr_bipush C (v := 18) dX6_move_99 (by decide +kernel) ?_
    refine xr_icmp_ne C 113 dX6_move_101 (by decide) (fun cd6 => ?_) (fun cd6 => ?_)
    · rw [if_neg cd6] at hf
      exact xr_sub C [0, 2] rfl (lab113 h x3  hf)
    · rw [if_pos cd6] at hf
      refine xr_aload_n C dX6_move_104 0 rfl rfl ?_
      refine xr_iload_n C dX6_move_105 1 rfl rfl ?_
      refine xr_sipush C (v := 511) dX6_move_106 (by decide +kernel) ?_
      refine xr_iand C dX6_move_109 ?_
      refine xr_put C (ci := 6) (Cn := RX6) (T := TX6) (N := 23) (ty := .int) (v := (x2 &&& 511)) 0 (by decide) rfl rfl 4 (by decide) wnX6 wl53 rfl tyX6 tyX6_ok nmX6 rfl (by decide +kernel) rfl rfl (Nat.le_of_ble_eq_true rfl) rfl dX6_move_110 ?_
      exact xr_sub C [0, 2] rfl (lab113 (u2 h 0 4 (x2 &&& 511)) x3  hf)
  have lab84 : ∀ (h : hp) (x2 : Int32) (x3 : Int32) , f_X6_move_84 h x2 x3 = some h9 → XJ p l e rmX6_move s m args below meth c (dC, dI) vwCl 11 a (mcf cI cZ a) 6 (MQ below (XQv (dC, dI) vwCl 11 a (mcf cI cZ a) h9) args s 0 0 (xA 11 a)) h [(0, .ref (a 0)), (2, .int x2), (3, .int x3)] [] 84 := by
    intro h x2 x3  hf
    unfold f_X6_move_84 at hf
    refine xr_iload_n C dX6_move_84 2 rfl rfl ?_
    refine xr_bipush C (v := 15) dX6_move_85 (by decide +kernel) ?_
    refine xr_icmp_ne C 98 dX6_move_87 (by decide) (fun cd5 => ?_) (fun cd5 => ?_)
    · rw [if_neg cd5] at hf
      exact xr_sub C [0, 1, 2] rfl (lab98 h x2 x3  hf)
    · rw [if_pos cd5] at hf
      refine xr_aload_n C dX6_move_90 0 rfl rfl ?_
      refine xr_aload_n C dX6_move_91 0 rfl rfl ?_
      refine xr_get C (ci := 6) (Cn := RX6) (T := TX6) (N := 23) (v := .int (h 0 5)) 0 (by decide) rfl rfl 5 (by decide) wnX6 wl56 rfl rfl dX6_move_92 ?_
      refine xr_put C (ci := 6) (Cn := RX6) (T := TX6) (N := 23) (ty := .int) (v := h 0 5) 0 (by decide) rfl rfl 4 (by decide) wnX6 wl53 rfl tyX6 tyX6_ok nmX6 rfl (by decide +kernel) rfl rfl (Nat.le_of_ble_eq_true rfl) rfl dX6_move_95 ?_
      exact xr_sub C [0, 1, 2] rfl (lab98 (u2 h 0 4 (h 0 5)) x2 x3  hf)
  unfold f_X6_move at hf
  refine xr_aload_n C dX6_move_0 0 rfl rfl ?_
  refine xr_get C (ci := 6) (Cn := RX6) (T := TX6) (N := 23) (v := .ref (a 3)) 0 (by decide) rfl rfl 3 (by decide) wnX6 wl16 rfl rfl dX6_move_1 ?_
  refine xr_iload_n C dX6_move_4 1 rfl rfl ?_
  refine xr_bipush C (v := 16) dX6_move_5 (by decide +kernel) ?_
  refine xr_ishr C dX6_move_7 ?_
  refine xr_bipush C (v := 7) dX6_move_8 (by decide +kernel) ?_
  refine xr_iand C dX6_move_10 ?_
  obtain ⟨gg1, hf⟩ := gd_some hf
  refine xr_iald C (v := h 3 ((x1 >>> (16 &&& 31)) &&& 7).toNatClampNeg) 3 (by decide) 0 rfl rfl gg1 rfl dX6_move_11 ?_
  refine xr_topi C (fun v2 ev2 => ?_)
  have hf := gl_at hf v2 ev2
  refine xr_istore_n C [(2, .int v2), (0, .ref (a 0)), (1, .int x1)] dX6_move_12 rfl (by decide) rfl ?_
  refine xr_iload_n C dX6_move_13 2 rfl rfl ?_
  refine xr_bipush C (v := 24) dX6_move_14 (by decide +kernel) ?_
  refine xr_iushr C dX6_move_16 ?_
  refine xr_topi C (fun v3 ev3 => ?_)
  have hf := gl_at hf v3 ev3
  refine xr_istore_n C [(3, .int v3), (2, .int v2), (0, .ref (a 0)), (1, .int x1)] dX6_move_17 rfl (by decide) rfl ?_
  refine xr_iload_n C dX6_move_18 3 rfl rfl ?_
  refine xr_i2s C dX6_move_19 ?_
  refine xr_istore C [(4, .int x1.toInt16.toInt32), (3, .int v3), (2, .int v2), (0, .ref (a 0)), (1, .int x1)] dX6_move_20 (by decide) rfl ?_
  refine xr_aload_n C dX6_move_22 3 rfl rfl ?_
  refine xr_aload_n C dX6_move_23 3 rfl rfl ?_
  refine xr_get C (ci := 6) (Cn := RX6) (T := TX6) (N := 23) (v := .int (h 0 4)) 0 (by decide) rfl rfl 4 (by decide) wnX6 wl53 rfl rfl dX6_move_24 ?_
  refine xr_iconst C (v := 1) dX6_move_27 (by decide +kernel) ?_
  refine xr_iadd C dX6_move_28 ?_
  refine xr_sipush C (v := 511) dX6_move_29 (by decide +kernel) ?_
  refine xr_iand C dX6_move_32 ?_
  refine xr_put C (ci := 6) (Cn := RX6) (T := TX6) (N := 23) (ty := .int) (v := (((h 0 4) + 1) &&& 511)) 0 (by decide) rfl rfl 4 (by decide) wnX6 wl53 rfl tyX6 tyX6_ok nmX6 rfl (by decide +kernel) rfl rfl (Nat.le_of_ble_eq_true rfl) rfl dX6_move_33 ?_
  refine xr_iload_n C dX6_move_36 1 rfl rfl ?_
  refine xr_bipush C (v := 9) dX6_move_37 (by decide +kernel) ?_
  refine xr_icmp_eq C 62 dX6_move_39 (by decide) (fun cd4 => ?_) (fun cd4 => ?_)
  · rw [if_pos cd4] at hf
    refine xr_iconst C (v := 1) dX6_move_62 (by decide +kernel) ?_
    refine xr_goto C 67 dX6_move_63 (by decide) ?_
    refine xr_istore C [(5, .int 1), (4, .int x1.toInt16.toInt32), (3, .int v3), (2, .int v2), (0, .ref (a 0)), (1, .int x1)] dX6_move_67 (by decide) rfl ?_
    refine xr_iload C dX6_move_69 0 rfl ?_
    refine xr_if_eq C 84 dX6_move_71 (by decide) (fun c9 => absurd c9 (by decide)) (fun c9 => ?_)
    refine xr_aload_n C dX6_move_74 4 rfl rfl ?_
    refine xr_iload C dX6_move_75 1 rfl ?_
    refine xr_sipush C (v := 511) dX6_move_77 (by decide +kernel) ?_
    refine xr_iand C dX6_move_80 ?_
    refine xr_put C (ci := 6) (Cn := RX6) (T := TX6) (N := 23) (ty := .int) (v := (x1.toInt16.toInt32 &&& 511)) 0 (by decide) rfl rfl 4 (by decide) wnX6 wl53 rfl tyX6 tyX6_ok nmX6 rfl (by decide +kernel) rfl rfl (Nat.le_of_ble_eq_true rfl) rfl dX6_move_81 ?_
    exact xr_sub C [4, 3, 2] rfl (lab84 (u2 (u2 h 0 4 (((h 0 4) + 1) &&& 511)) 0 4 (x1.toInt16.toInt32 &&& 511)) v2 v3  hf)
  · rw [if_neg cd4] at hf
    refine xr_iload_n C dX6_move_42 1 rfl rfl ?_
    refine xr_bipush C (v := 10) dX6_move_43 (by decide +kernel) ?_
    refine xr_icmp_ne C 52 dX6_move_45 (by decide) (fun cd10 => ?_) (fun cd10 => ?_)
    · rw [if_neg cd10] at hf
      refine xr_iload_n C dX6_move_52 1 rfl rfl ?_
      refine xr_bipush C (v := 11) dX6_move_53 (by decide +kernel) ?_
      refine xr_icmp_ne C 66 dX6_move_55 (by decide) (fun cd11 => ?_) (fun cd11 => ?_)
      · rw [if_neg cd11] at hf
        refine xr_iconst C (v := 0) dX6_move_66 (by decide +kernel) ?_
        refine xr_istore C [(5, .int 0), (4, .int x1.toInt16.toInt32), (3, .int v3), (2, .int v2), (0, .ref (a 0)), (1, .int x1)] dX6_move_67 (by decide) rfl ?_
        refine xr_iload C dX6_move_69 0 rfl ?_
        refine xr_if_eq C 84 dX6_move_71 (by decide) (fun c9 => ?_) (fun c9 => absurd c9 (by decide))
        exact xr_sub C [4, 3, 2] rfl (lab84 (u2 h 0 4 (((h 0 4) + 1) &&& 511)) v2 v3  hf)
      · rw [if_pos cd11] at hf
        refine xr_iload_n C dX6_move_58 2 rfl rfl ?_
        refine xr_if_ge C 66 dX6_move_59 (by decide) (fun cd12 => ?_) (fun cd12 => ?_)
        · rw [if_pos cd12] at hf
          refine xr_iconst C (v := 0) dX6_move_66 (by decide +kernel) ?_
          refine xr_istore C [(5, .int 0), (4, .int x1.toInt16.toInt32), (3, .int v3), (2, .int v2), (0, .ref (a 0)), (1, .int x1)] dX6_move_67 (by decide) rfl ?_
          refine xr_iload C dX6_move_69 0 rfl ?_
          refine xr_if_eq C 84 dX6_move_71 (by decide) (fun c9 => ?_) (fun c9 => absurd c9 (by decide))
          exact xr_sub C [4, 3, 2] rfl (lab84 (u2 h 0 4 (((h 0 4) + 1) &&& 511)) v2 v3  hf)
        · rw [if_neg cd12] at hf
          refine xr_iconst C (v := 1) dX6_move_62 (by decide +kernel) ?_
          refine xr_goto C 67 dX6_move_63 (by decide) ?_
          refine xr_istore C [(5, .int 1), (4, .int x1.toInt16.toInt32), (3, .int v3), (2, .int v2), (0, .ref (a 0)), (1, .int x1)] dX6_move_67 (by decide) rfl ?_
          refine xr_iload C dX6_move_69 0 rfl ?_
          refine xr_if_eq C 84 dX6_move_71 (by decide) (fun c9 => absurd c9 (by decide)) (fun c9 => ?_)
          refine xr_aload_n C dX6_move_74 4 rfl rfl ?_
          refine xr_iload C dX6_move_75 1 rfl ?_
          refine xr_sipush C (v := 511) dX6_move_77 (by decide +kernel) ?_
          refine xr_iand C dX6_move_80 ?_
          refine xr_put C (ci := 6) (Cn := RX6) (T := TX6) (N := 23) (ty := .int) (v := (x1.toInt16.toInt32 &&& 511)) 0 (by decide) rfl rfl 4 (by decide) wnX6 wl53 rfl tyX6 tyX6_ok nmX6 rfl (by decide +kernel) rfl rfl (Nat.le_of_ble_eq_true rfl) rfl dX6_move_81 ?_
          exact xr_sub C [4, 3, 2] rfl (lab84 (u2 (u2 h 0 4 (((h 0 4) + 1) &&& 511)) 0 4 (x1.toInt16.toInt32 &&& 511)) v2 v3  hf)
    · rw [if_pos cd10] at hf
      refine xr_iload_n C dX6_move_48 2 rfl rfl ?_
      refine xr_if_eq C 62 dX6_move_49 (by decide) (fun cd13 => ?_) (fun cd13 => ?_)
      · rw [if_pos cd13] at hf
        refine xr_iconst C (v := 1) dX6_move_62 (by decide +kernel) ?_
        refine xr_goto C 67 dX6_move_63 (by decide) ?_
        refine xr_istore C [(5, .int 1), (4, .int x1.toInt16.toInt32), (3, .int v3), (2, .int v2), (0, .ref (a 0)), (1, .int x1)] dX6_move_67 (by decide) rfl ?_
        refine xr_iload C dX6_move_69 0 rfl ?_
        refine xr_if_eq C 84 dX6_move_71 (by decide) (fun c9 => absurd c9 (by decide)) (fun c9 => ?_)
        refine xr_aload_n C dX6_move_74 4 rfl rfl ?_
        refine xr_iload C dX6_move_75 1 rfl ?_
        refine xr_sipush C (v := 511) dX6_move_77 (by decide +kernel) ?_
        refine xr_iand C dX6_move_80 ?_
        refine xr_put C (ci := 6) (Cn := RX6) (T := TX6) (N := 23) (ty := .int) (v := (x1.toInt16.toInt32 &&& 511)) 0 (by decide) rfl rfl 4 (by decide) wnX6 wl53 rfl tyX6 tyX6_ok nmX6 rfl (by decide +kernel) rfl rfl (Nat.le_of_ble_eq_true rfl) rfl dX6_move_81 ?_
        exact xr_sub C [4, 3, 2] rfl (lab84 (u2 (u2 h 0 4 (((h 0 4) + 1) &&& 511)) 0 4 (x1.toInt16.toInt32 &&& 511)) v2 v3  hf)
      · rw [if_neg cd13] at hf
        refine xr_iload_n C dX6_move_52 1 rfl rfl ?_
        refine xr_bipush C (v := 11) dX6_move_53 (by decide +kernel) ?_
        refine xr_icmp_ne C 66 dX6_move_55 (by decide) (fun cd14 => ?_) (fun cd14 => ?_)
        · rw [if_neg cd14] at hf
          refine xr_iconst C (v := 0) dX6_move_66 (by decide +kernel) ?_
          refine xr_istore C [(5, .int 0), (4, .int x1.toInt16.toInt32), (3, .int v3), (2, .int v2), (0, .ref (a 0)), (1, .int x1)] dX6_move_67 (by decide) rfl ?_
          refine xr_iload C dX6_move_69 0 rfl ?_
          refine xr_if_eq C 84 dX6_move_71 (by decide) (fun c9 => ?_) (fun c9 => absurd c9 (by decide))
          exact xr_sub C [4, 3, 2] rfl (lab84 (u2 h 0 4 (((h 0 4) + 1) &&& 511)) v2 v3  hf)
        · rw [if_pos cd14] at hf
          refine xr_iload_n C dX6_move_58 2 rfl rfl ?_
          refine xr_if_ge C 66 dX6_move_59 (by decide) (fun cd15 => ?_) (fun cd15 => ?_)
          · rw [if_pos cd15] at hf
            refine xr_iconst C (v := 0) dX6_move_66 (by decide +kernel) ?_
            refine xr_istore C [(5, .int 0), (4, .int x1.toInt16.toInt32), (3, .int v3), (2, .int v2), (0, .ref (a 0)), (1, .int x1)] dX6_move_67 (by decide) rfl ?_
            refine xr_iload C dX6_move_69 0 rfl ?_
            refine xr_if_eq C 84 dX6_move_71 (by decide) (fun c9 => ?_) (fun c9 => absurd c9 (by decide))
            exact xr_sub C [4, 3, 2] rfl (lab84 (u2 h 0 4 (((h 0 4) + 1) &&& 511)) v2 v3  hf)
          · rw [if_neg cd15] at hf
            refine xr_iconst C (v := 1) dX6_move_62 (by decide +kernel) ?_
            refine xr_goto C 67 dX6_move_63 (by decide) ?_
            refine xr_istore C [(5, .int 1), (4, .int x1.toInt16.toInt32), (3, .int v3), (2, .int v2), (0, .ref (a 0)), (1, .int x1)] dX6_move_67 (by decide) rfl ?_
            refine xr_iload C dX6_move_69 0 rfl ?_
            refine xr_if_eq C 84 dX6_move_71 (by decide) (fun c9 => absurd c9 (by decide)) (fun c9 => ?_)
            refine xr_aload_n C dX6_move_74 4 rfl rfl ?_
            refine xr_iload C dX6_move_75 1 rfl ?_
            refine xr_sipush C (v := 511) dX6_move_77 (by decide +kernel) ?_
            refine xr_iand C dX6_move_80 ?_
            refine xr_put C (ci := 6) (Cn := RX6) (T := TX6) (N := 23) (ty := .int) (v := (x1.toInt16.toInt32 &&& 511)) 0 (by decide) rfl rfl 4 (by decide) wnX6 wl53 rfl tyX6 tyX6_ok nmX6 rfl (by decide +kernel) rfl rfl (Nat.le_of_ble_eq_true rfl) rfl dX6_move_81 ?_
            exact xr_sub C [4, 3, 2] rfl (lab84 (u2 (u2 h 0 4 (((h 0 4) + 1) &&& 511)) 0 4 (x1.toInt16.toInt32 &&& 511)) v2 v3  hf)
def f_X6_instruct (h : hp) (x1 : Int32) (x2 : Int32) : Option hp := bV (f_X6_move h x1) (fun hh2 => bV (f_X6_work hh2 x1 x2) (fun hh4 => some hh4))
abbrev rmX6_instruct : Room := { frames := 2, cells := 0, slots := 0, locals := 47 }
set_option maxHeartbeats 4000000 in
set_option maxRecDepth 100000 in
theorem c_X6_instruct (l : Launch) (dC : Nat → ClassId) (dI : Nat → Nat → Nat) (cI cZ : ClassId) (a : Nat → Nat) (hD : xD 11 a) (h : hp) (x1 : Int32) (x2 : Int32) {h9 : hp} (hf : f_X6_instruct h x1 x2 = some h9) : XMv l yX6_instruct wsX6_instruct rmX6_instruct (dC, dI) vwCl (mty cI cZ) 11 a (mcf cI cZ a) h [.ref (a 0), .int x1, .int x2] h9 := by
  refine xm_v (cc := cX6_instruct) (maxL := 3) (ws' := wsX6_instruct.tail) (by decide) rfl hD (Nat.le_of_ble_eq_true rfl) [(0, .ref (a 0)), (1, .int x1), (2, .int x2)] rfl RX6 rfl ?_
  intro p e s m args below meth c C hlk hr
  unfold f_X6_instruct at hf
  refine xr_aload_n C dX6_instruct_0 0 rfl rfl ?_
  refine xr_iload_n C dX6_instruct_1 1 rfl rfl ?_
  obtain ⟨hh2, ee1, hf⟩ := bV_some hf
  refine xr_callVv C (Cn := RX6) 0 (by decide) rfl rfl [.int x1] [] (c_X6_move l dC dI cI cZ a hD h x1 ee1) (cwV 1 C.2.2.1 gX6_instruct_X6_move rfl rfl rfl (by decide +kernel) ⟨Nat.le_of_ble_eq_true rfl, Nat.le_of_ble_eq_true rfl⟩) rfl rfl (Nat.le_of_ble_eq_true rfl) dX6_instruct_2 ?_
  refine xr_aload_n C dX6_instruct_5 0 rfl rfl ?_
  refine xr_iload_n C dX6_instruct_6 1 rfl rfl ?_
  refine xr_iload_n C dX6_instruct_7 2 rfl rfl ?_
  obtain ⟨hh4, ee3, hf⟩ := bV_some hf
  refine xr_callVv C (Cn := RX6) 0 (by decide) rfl rfl [.int x1, .int x2] [] (c_X6_work l dC dI cI cZ a hD hh2 x1 x2 ee3) (cwV 2 C.2.2.1 gX6_instruct_X6_work rfl rfl rfl (by decide +kernel) ⟨Nat.le_of_ble_eq_true rfl, Nat.le_of_ble_eq_true rfl⟩) rfl rfl (Nat.le_of_ble_eq_true rfl) dX6_instruct_8 ?_
  cases hf
  exact xr_vret C hlk hr dX6_instruct_11
def f_X6_pass_25 : Nat → hp → Int32 → Option hp
  | 0, _, _ => none
  | n + 1, h, x1 => if 32 ≤ x1 then (some h) else (gd (¬ (x1 < 0 ∨ 32 ≤ x1.toNatClampNeg)) (f_X6_pass_25 n (u2 h 9 x1.toNatClampNeg 0) (x1 + 1)))
def f_X6_pass (h : hp)  : Option hp := gd (¬ (h 0 0) = 0) (if (((h 0 10) + 1) - ((h 0 10) + 1) / (h 0 0) * (h 0 0)) = 0 then (f_X6_pass_25 1000 (u2 h 0 10 ((h 0 10) + 1)) 0) else (some (u2 h 0 10 ((h 0 10) + 1))))
abbrev rmX6_pass : Room := { frames := 0, cells := 0, slots := 0, locals := 0 }
set_option maxHeartbeats 4000000 in
set_option maxRecDepth 100000 in
theorem c_X6_pass (l : Launch) (dC : Nat → ClassId) (dI : Nat → Nat → Nat) (cI cZ : ClassId) (a : Nat → Nat) (hD : xD 11 a) (h : hp)  {h9 : hp} (hf : f_X6_pass h  = some h9) : XMv l yX6_pass wsX6_pass rmX6_pass (dC, dI) vwCl (mty cI cZ) 11 a (mcf cI cZ a) h [.ref (a 0)] h9 := by
  refine xm_v (cc := cX6_pass) (maxL := 2) (ws' := wsX6_pass.tail) (by decide) rfl hD (Nat.le_of_ble_eq_true rfl) [(0, .ref (a 0))] rfl RX6 rfl ?_
  intro p e s m args below meth c C hlk hr
  have wl65 : Cond.fieldLink RX6 65 "RewindBoxModel" "position" "I" ∈ wsX6_pass := by decide +kernel
  have wnX6 : ∀ w ∈ u_ws RX6 TX6 23, w ∈ wsX6_pass := by decide +kernel
  have wl41 : Cond.fieldLink RX6 41 "RewindBoxModel" "interval" "I" ∈ wsX6_pass := by decide +kernel
  have wl34 : Cond.fieldLink RX6 34 "RewindBoxModel" "written" "[Z" ∈ wsX6_pass := by decide +kernel
  have lab25 : ∀ (n : Nat) (h : hp) (x1 : Int32) , f_X6_pass_25 n h x1 = some h9 → XJ p l e rmX6_pass s m args below meth c (dC, dI) vwCl 11 a (mcf cI cZ a) 2 (MQ below (XQv (dC, dI) vwCl 11 a (mcf cI cZ a) h9) args s 0 0 (xA 11 a)) h [(0, .ref (a 0)), (1, .int x1)] [] 25 := by
    intro n
    induction n with
    | zero => intro h x1  hf; simp [f_X6_pass_25] at hf
    | succ n ih =>
      intro h x1  hf
      rw [f_X6_pass_25] at hf
      refine xr_iload_n C dX6_pass_25 1 rfl rfl ?_
      refine xr_bipush C (v := 32) dX6_pass_26 (by decide +kernel) ?_
      refine xr_icmp_ge C 44 dX6_pass_28 (by decide) (fun cd3 => ?_) (fun cd3 => ?_)
      · rw [if_pos cd3] at hf
        cases hf
        exact xr_vret C hlk hr dX6_pass_44
      · rw [if_neg cd3] at hf
        refine xr_aload_n C dX6_pass_31 0 rfl rfl ?_
        refine xr_get C (ci := 6) (Cn := RX6) (T := TX6) (N := 23) (v := .ref (a 9)) 0 (by decide) rfl rfl 19 (by decide) wnX6 wl34 rfl rfl dX6_pass_32 ?_
        refine xr_iload_n C dX6_pass_35 1 rfl rfl ?_
        refine xr_iconst C (v := 0) dX6_pass_36 (by decide +kernel) ?_
        obtain ⟨gg4, hf⟩ := gd_some hf
        refine xr_zast C 9 (by decide) 1 (fun _ => rfl) rfl (by decide +kernel) gg4 dX6_pass_37 ?_
        refine xr_iinc C [(1, .int (x1 + 1)), (0, .ref (a 0))] dX6_pass_38 1 rfl rfl (by decide) rfl ?_
        refine xr_goto C 25 dX6_pass_41 (by decide) ?_
        exact xr_sub C [1, 0] rfl (ih (u2 h 9 x1.toNatClampNeg 0) (x1 + 1)  hf)
  unfold f_X6_pass at hf
  refine xr_aload_n C dX6_pass_0 0 rfl rfl ?_
  refine xr_dup C dX6_pass_1 rfl ?_
  refine xr_get C (ci := 6) (Cn := RX6) (T := TX6) (N := 23) (v := .int (h 0 10)) 0 (by decide) rfl rfl 10 (by decide) wnX6 wl65 rfl rfl dX6_pass_2 ?_
  refine xr_iconst C (v := 1) dX6_pass_5 (by decide +kernel) ?_
  refine xr_iadd C dX6_pass_6 ?_
  refine xr_put C (ci := 6) (Cn := RX6) (T := TX6) (N := 23) (ty := .int) (v := ((h 0 10) + 1)) 0 (by decide) rfl rfl 10 (by decide) wnX6 wl65 rfl tyX6 tyX6_ok nmX6 rfl (by decide +kernel) rfl rfl (Nat.le_of_ble_eq_true rfl) rfl dX6_pass_7 ?_
  refine xr_aload_n C dX6_pass_10 0 rfl rfl ?_
  refine xr_get C (ci := 6) (Cn := RX6) (T := TX6) (N := 23) (v := .int ((h 0 10) + 1)) 0 (by decide) rfl rfl 10 (by decide) wnX6 wl65 rfl rfl dX6_pass_11 ?_
  refine xr_aload_n C dX6_pass_14 0 rfl rfl ?_
  refine xr_get C (ci := 6) (Cn := RX6) (T := TX6) (N := 23) (v := .int (h 0 0)) 0 (by decide) rfl rfl 0 (by decide) wnX6 wl41 rfl rfl dX6_pass_15 ?_
  obtain ⟨gg1, hf⟩ := gd_some hf
  refine xr_irem C dX6_pass_18 gg1 ?_
  refine xr_if_eq C 23 dX6_pass_19 (by decide) (fun cd2 => ?_) (fun cd2 => ?_)
  · rw [if_pos cd2] at hf
    refine xr_iconst C (v := 0) dX6_pass_23 (by decide +kernel) ?_
    refine xr_istore_n C [(1, .int 0), (0, .ref (a 0))] dX6_pass_24 rfl (by decide) rfl ?_
    exact xr_sub C [1, 0] rfl (lab25 1000 (u2 h 0 10 ((h 0 10) + 1)) 0  hf)
  · rw [if_neg cd2] at hf
    cases hf
    exact xr_vret C hlk hr dX6_pass_22
def f_X6_again (h : hp)  : Option hp := if h 0 15 ≤ h 0 16 then (gd (¬ ((h 0 4) < 0 ∨ 512 ≤ (h 0 4).toNatClampNeg)) (bV (f_X6_instruct h (h 2 (h 0 4).toNatClampNeg) 0) (fun hh4 => bV (f_X6_pass hh4) (fun hh6 => some hh6)))) else (gd (¬ ((h 0 16) < 0 ∨ 300 ≤ (h 0 16).toNatClampNeg)) (if h 5 (h 0 16).toNatClampNeg = h 0 10 then (gd (¬ ((h 0 16) < 0 ∨ 300 ≤ (h 0 16).toNatClampNeg)) (gl (h 7 (h 0 16).toNatClampNeg) (fun v15 => gd (¬ ((h 0 16) < 0 ∨ 300 ≤ (h 0 16).toNatClampNeg)) (if h 6 (h 0 16).toNatClampNeg = 2 then (bV (f_X6_interrupt h) (fun hh24 => bV (f_X6_pass (u2 hh24 0 16 ((hh24 0 16) + 1))) (fun hh26 => some hh26))) else (gd (¬ ((h 0 4) < 0 ∨ 512 ≤ (h 0 4).toNatClampNeg)) (bV (f_X6_instruct h (h 2 (h 0 4).toNatClampNeg) v15) (fun hh20 => bV (f_X6_pass (u2 hh20 0 16 ((hh20 0 16) + 1))) (fun hh22 => some hh22)))))))) else (gd (¬ ((h 0 4) < 0 ∨ 512 ≤ (h 0 4).toNatClampNeg)) (bV (f_X6_instruct h (h 2 (h 0 4).toNatClampNeg) 0) (fun hh11 => bV (f_X6_pass hh11) (fun hh13 => some hh13))))))
abbrev rmX6_again : Room := { frames := 3, cells := 0, slots := 0, locals := 69 }
set_option maxHeartbeats 4000000 in
set_option maxRecDepth 100000 in
theorem c_X6_again (l : Launch) (dC : Nat → ClassId) (dI : Nat → Nat → Nat) (cI cZ : ClassId) (a : Nat → Nat) (hD : xD 11 a) (h : hp)  {h9 : hp} (hf : f_X6_again h  = some h9) : XMv l yX6_again wsX6_again rmX6_again (dC, dI) vwCl (mty cI cZ) 11 a (mcf cI cZ a) h [.ref (a 0)] h9 := by
  refine xm_v (cc := cX6_again) (maxL := 3) (ws' := wsX6_again.tail) (by decide) rfl hD (Nat.le_of_ble_eq_true rfl) [(0, .ref (a 0))] rfl RX6 rfl ?_
  intro p e s m args below meth c C hlk hr
  have wl68 : Cond.fieldLink RX6 68 "RewindBoxModel" "passed" "I" ∈ wsX6_again := by decide +kernel
  have wnX6 : ∀ w ∈ u_ws RX6 TX6 23, w ∈ wsX6_again := by decide +kernel
  have wl74 : Cond.fieldLink RX6 74 "RewindBoxModel" "entries" "I" ∈ wsX6_again := by decide +kernel
  have wl13 : Cond.fieldLink RX6 13 "RewindBoxModel" "memory" "[I" ∈ wsX6_again := by decide +kernel
  have wl53 : Cond.fieldLink RX6 53 "RewindBoxModel" "pc" "I" ∈ wsX6_again := by decide +kernel
  have wl22 : Cond.fieldLink RX6 22 "RewindBoxModel" "logAt" "[I" ∈ wsX6_again := by decide +kernel
  have wl65 : Cond.fieldLink RX6 65 "RewindBoxModel" "position" "I" ∈ wsX6_again := by decide +kernel
  have wl28 : Cond.fieldLink RX6 28 "RewindBoxModel" "logInput" "[I" ∈ wsX6_again := by decide +kernel
  have wl25 : Cond.fieldLink RX6 25 "RewindBoxModel" "logKind" "[I" ∈ wsX6_again := by decide +kernel
  unfold f_X6_again at hf
  refine xr_aload_n C dX6_again_0 0 rfl rfl ?_
  refine xr_get C (ci := 6) (Cn := RX6) (T := TX6) (N := 23) (v := .int (h 0 16)) 0 (by decide) rfl rfl 16 (by decide) wnX6 wl68 rfl rfl dX6_again_1 ?_
  refine xr_aload_n C dX6_again_4 0 rfl rfl ?_
  refine xr_get C (ci := 6) (Cn := RX6) (T := TX6) (N := 23) (v := .int (h 0 15)) 0 (by decide) rfl rfl 15 (by decide) wnX6 wl74 rfl rfl dX6_again_5 ?_
  refine xr_icmp_ge C 31 dX6_again_8 (by decide) (fun cd1 => ?_) (fun cd1 => ?_)
  · rw [if_pos cd1] at hf
    refine xr_iconst C (v := 0) dX6_again_31 (by decide +kernel) ?_
    refine xr_istore_n C [(1, .int 0), (0, .ref (a 0))] dX6_again_32 rfl (by decide) rfl ?_
    refine xr_iload_n C dX6_again_33 0 rfl rfl ?_
    refine xr_if_eq C 49 dX6_again_34 (by decide) (fun c9 => ?_) (fun c9 => absurd c9 (by decide))
    refine xr_iconst C (v := 0) dX6_again_49 (by decide +kernel) ?_
    refine xr_istore_n C [(2, .int 0), (1, .int 0), (0, .ref (a 0))] dX6_again_50 rfl (by decide) rfl ?_
    refine xr_iload_n C dX6_again_51 1 rfl rfl ?_
    refine xr_if_eq C 75 dX6_again_52 (by decide) (fun c9 => ?_) (fun c9 => absurd c9 (by decide))
    refine xr_aload_n C dX6_again_75 2 rfl rfl ?_
    refine xr_aload_n C dX6_again_76 2 rfl rfl ?_
    refine xr_get C (ci := 6) (Cn := RX6) (T := TX6) (N := 23) (v := .ref (a 2)) 0 (by decide) rfl rfl 2 (by decide) wnX6 wl13 rfl rfl dX6_again_77 ?_
    refine xr_aload_n C dX6_again_80 2 rfl rfl ?_
    refine xr_get C (ci := 6) (Cn := RX6) (T := TX6) (N := 23) (v := .int (h 0 4)) 0 (by decide) rfl rfl 4 (by decide) wnX6 wl53 rfl rfl dX6_again_81 ?_
    obtain ⟨gg2, hf⟩ := gd_some hf
    refine xr_iald C (v := h 2 (h 0 4).toNatClampNeg) 2 (by decide) 0 rfl rfl gg2 rfl dX6_again_84 ?_
    refine xr_iload_n C dX6_again_85 0 rfl rfl ?_
    obtain ⟨hh4, ee3, hf⟩ := bV_some hf
    refine xr_callVv C (Cn := RX6) 0 (by decide) rfl rfl [.int (h 2 (h 0 4).toNatClampNeg), .int 0] [] (c_X6_instruct l dC dI cI cZ a hD h (h 2 (h 0 4).toNatClampNeg) 0 ee3) (cwV 2 C.2.2.1 gX6_again_X6_instruct rfl rfl rfl (by decide +kernel) ⟨Nat.le_of_ble_eq_true rfl, Nat.le_of_ble_eq_true rfl⟩) rfl rfl (Nat.le_of_ble_eq_true rfl) dX6_again_86 ?_
    refine xr_iload_n C dX6_again_89 1 rfl rfl ?_
    refine xr_if_eq C 103 dX6_again_90 (by decide) (fun c9 => ?_) (fun c9 => absurd c9 (by decide))
    refine xr_aload_n C dX6_again_103 2 rfl rfl ?_
    obtain ⟨hh6, ee5, hf⟩ := bV_some hf
    refine xr_callVv C (Cn := RX6) 0 (by decide) rfl rfl [] [] (c_X6_pass l dC dI cI cZ a hD hh4 ee5) (cwV 0 C.2.2.1 gX6_again_X6_pass rfl rfl rfl (by decide +kernel) ⟨Nat.le_of_ble_eq_true rfl, Nat.le_of_ble_eq_true rfl⟩) rfl rfl (Nat.le_of_ble_eq_true rfl) dX6_again_104 ?_
    cases hf
    exact xr_vret C hlk hr dX6_again_107
  · rw [if_neg cd1] at hf
    refine xr_aload_n C dX6_again_11 0 rfl rfl ?_
    refine xr_get C (ci := 6) (Cn := RX6) (T := TX6) (N := 23) (v := .ref (a 5)) 0 (by decide) rfl rfl 12 (by decide) wnX6 wl22 rfl rfl dX6_again_12 ?_
    refine xr_aload_n C dX6_again_15 0 rfl rfl ?_
    refine xr_get C (ci := 6) (Cn := RX6) (T := TX6) (N := 23) (v := .int (h 0 16)) 0 (by decide) rfl rfl 16 (by decide) wnX6 wl68 rfl rfl dX6_again_16 ?_
    obtain ⟨gg7, hf⟩ := gd_some hf
    refine xr_iald C (v := h 5 (h 0 16).toNatClampNeg) 5 (by decide) 0 rfl rfl gg7 rfl dX6_again_19 ?_
    refine xr_aload_n C dX6_again_20 0 rfl rfl ?_
    refine xr_get C (ci := 6) (Cn := RX6) (T := TX6) (N := 23) (v := .int (h 0 10)) 0 (by decide) rfl rfl 10 (by decide) wnX6 wl65 rfl rfl dX6_again_21 ?_
    refine xr_icmp_ne C 31 dX6_again_24 (by decide) (fun cd8 => ?_) (fun cd8 => ?_)
    · rw [if_neg cd8] at hf
      refine xr_iconst C (v := 0) dX6_again_31 (by decide +kernel) ?_
      refine xr_istore_n C [(1, .int 0), (0, .ref (a 0))] dX6_again_32 rfl (by decide) rfl ?_
      refine xr_iload_n C dX6_again_33 0 rfl rfl ?_
      refine xr_if_eq C 49 dX6_again_34 (by decide) (fun c9 => ?_) (fun c9 => absurd c9 (by decide))
      refine xr_iconst C (v := 0) dX6_again_49 (by decide +kernel) ?_
      refine xr_istore_n C [(2, .int 0), (1, .int 0), (0, .ref (a 0))] dX6_again_50 rfl (by decide) rfl ?_
      refine xr_iload_n C dX6_again_51 1 rfl rfl ?_
      refine xr_if_eq C 75 dX6_again_52 (by decide) (fun c9 => ?_) (fun c9 => absurd c9 (by decide))
      refine xr_aload_n C dX6_again_75 2 rfl rfl ?_
      refine xr_aload_n C dX6_again_76 2 rfl rfl ?_
      refine xr_get C (ci := 6) (Cn := RX6) (T := TX6) (N := 23) (v := .ref (a 2)) 0 (by decide) rfl rfl 2 (by decide) wnX6 wl13 rfl rfl dX6_again_77 ?_
      refine xr_aload_n C dX6_again_80 2 rfl rfl ?_
      refine xr_get C (ci := 6) (Cn := RX6) (T := TX6) (N := 23) (v := .int (h 0 4)) 0 (by decide) rfl rfl 4 (by decide) wnX6 wl53 rfl rfl dX6_again_81 ?_
      obtain ⟨gg9, hf⟩ := gd_some hf
      refine xr_iald C (v := h 2 (h 0 4).toNatClampNeg) 2 (by decide) 0 rfl rfl gg9 rfl dX6_again_84 ?_
      refine xr_iload_n C dX6_again_85 0 rfl rfl ?_
      obtain ⟨hh11, ee10, hf⟩ := bV_some hf
      refine xr_callVv C (Cn := RX6) 0 (by decide) rfl rfl [.int (h 2 (h 0 4).toNatClampNeg), .int 0] [] (c_X6_instruct l dC dI cI cZ a hD h (h 2 (h 0 4).toNatClampNeg) 0 ee10) (cwV 2 C.2.2.1 gX6_again_X6_instruct rfl rfl rfl (by decide +kernel) ⟨Nat.le_of_ble_eq_true rfl, Nat.le_of_ble_eq_true rfl⟩) rfl rfl (Nat.le_of_ble_eq_true rfl) dX6_again_86 ?_
      refine xr_iload_n C dX6_again_89 1 rfl rfl ?_
      refine xr_if_eq C 103 dX6_again_90 (by decide) (fun c9 => ?_) (fun c9 => absurd c9 (by decide))
      refine xr_aload_n C dX6_again_103 2 rfl rfl ?_
      obtain ⟨hh13, ee12, hf⟩ := bV_some hf
      refine xr_callVv C (Cn := RX6) 0 (by decide) rfl rfl [] [] (c_X6_pass l dC dI cI cZ a hD hh11 ee12) (cwV 0 C.2.2.1 gX6_again_X6_pass rfl rfl rfl (by decide +kernel) ⟨Nat.le_of_ble_eq_true rfl, Nat.le_of_ble_eq_true rfl⟩) rfl rfl (Nat.le_of_ble_eq_true rfl) dX6_again_104 ?_
      cases hf
      exact xr_vret C hlk hr dX6_again_107
    · rw [if_pos cd8] at hf
      refine xr_iconst C (v := 1) dX6_again_27 (by decide +kernel) ?_
      refine xr_goto C 32 dX6_again_28 (by decide) ?_
      refine xr_istore_n C [(1, .int 1), (0, .ref (a 0))] dX6_again_32 rfl (by decide) rfl ?_
      refine xr_iload_n C dX6_again_33 0 rfl rfl ?_
      refine xr_if_eq C 49 dX6_again_34 (by decide) (fun c9 => absurd c9 (by decide)) (fun c9 => ?_)
      refine xr_aload_n C dX6_again_37 1 rfl rfl ?_
      refine xr_get C (ci := 6) (Cn := RX6) (T := TX6) (N := 23) (v := .ref (a 7)) 0 (by decide) rfl rfl 14 (by decide) wnX6 wl28 rfl rfl dX6_again_38 ?_
      refine xr_aload_n C dX6_again_41 1 rfl rfl ?_
      refine xr_get C (ci := 6) (Cn := RX6) (T := TX6) (N := 23) (v := .int (h 0 16)) 0 (by decide) rfl rfl 16 (by decide) wnX6 wl68 rfl rfl dX6_again_42 ?_
      obtain ⟨gg14, hf⟩ := gd_some hf
      refine xr_iald C (v := h 7 (h 0 16).toNatClampNeg) 7 (by decide) 0 rfl rfl gg14 rfl dX6_again_45 ?_
      refine xr_goto C 50 dX6_again_46 (by decide) ?_
      refine xr_topi C (fun v15 ev15 => ?_)
      have hf := gl_at hf v15 ev15
      refine xr_istore_n C [(2, .int v15), (1, .int 1), (0, .ref (a 0))] dX6_again_50 rfl (by decide) rfl ?_
      refine xr_iload_n C dX6_again_51 1 rfl rfl ?_
      refine xr_if_eq C 75 dX6_again_52 (by decide) (fun c9 => absurd c9 (by decide)) (fun c9 => ?_)
      refine xr_aload_n C dX6_again_55 2 rfl rfl ?_
      refine xr_get C (ci := 6) (Cn := RX6) (T := TX6) (N := 23) (v := .ref (a 6)) 0 (by decide) rfl rfl 13 (by decide) wnX6 wl25 rfl rfl dX6_again_56 ?_
      refine xr_aload_n C dX6_again_59 2 rfl rfl ?_
      refine xr_get C (ci := 6) (Cn := RX6) (T := TX6) (N := 23) (v := .int (h 0 16)) 0 (by decide) rfl rfl 16 (by decide) wnX6 wl68 rfl rfl dX6_again_60 ?_
      obtain ⟨gg16, hf⟩ := gd_some hf
      refine xr_iald C (v := h 6 (h 0 16).toNatClampNeg) 6 (by decide) 0 rfl rfl gg16 rfl dX6_again_63 ?_
      refine xr_iconst C (v := 2) dX6_again_64 (by decide +kernel) ?_
      refine xr_icmp_ne C 75 dX6_again_65 (by decide) (fun cd17 => ?_) (fun cd17 => ?_)
      · rw [if_neg cd17] at hf
        refine xr_aload_n C dX6_again_75 2 rfl rfl ?_
        refine xr_aload_n C dX6_again_76 2 rfl rfl ?_
        refine xr_get C (ci := 6) (Cn := RX6) (T := TX6) (N := 23) (v := .ref (a 2)) 0 (by decide) rfl rfl 2 (by decide) wnX6 wl13 rfl rfl dX6_again_77 ?_
        refine xr_aload_n C dX6_again_80 2 rfl rfl ?_
        refine xr_get C (ci := 6) (Cn := RX6) (T := TX6) (N := 23) (v := .int (h 0 4)) 0 (by decide) rfl rfl 4 (by decide) wnX6 wl53 rfl rfl dX6_again_81 ?_
        obtain ⟨gg18, hf⟩ := gd_some hf
        refine xr_iald C (v := h 2 (h 0 4).toNatClampNeg) 2 (by decide) 0 rfl rfl gg18 rfl dX6_again_84 ?_
        refine xr_iload_n C dX6_again_85 0 rfl rfl ?_
        obtain ⟨hh20, ee19, hf⟩ := bV_some hf
        refine xr_callVv C (Cn := RX6) 0 (by decide) rfl rfl [.int (h 2 (h 0 4).toNatClampNeg), .int v15] [] (c_X6_instruct l dC dI cI cZ a hD h (h 2 (h 0 4).toNatClampNeg) v15 ee19) (cwV 2 C.2.2.1 gX6_again_X6_instruct rfl rfl rfl (by decide +kernel) ⟨Nat.le_of_ble_eq_true rfl, Nat.le_of_ble_eq_true rfl⟩) rfl rfl (Nat.le_of_ble_eq_true rfl) dX6_again_86 ?_
        refine xr_iload_n C dX6_again_89 1 rfl rfl ?_
        refine xr_if_eq C 103 dX6_again_90 (by decide) (fun c9 => absurd c9 (by decide)) (fun c9 => ?_)
        refine xr_aload_n C dX6_again_93 2 rfl rfl ?_
        refine xr_dup C dX6_again_94 rfl ?_
        refine xr_get C (ci := 6) (Cn := RX6) (T := TX6) (N := 23) (v := .int (hh20 0 16)) 0 (by decide) rfl rfl 16 (by decide) wnX6 wl68 rfl rfl dX6_again_95 ?_
        refine xr_iconst C (v := 1) dX6_again_98 (by decide +kernel) ?_
        refine xr_iadd C dX6_again_99 ?_
        refine xr_put C (ci := 6) (Cn := RX6) (T := TX6) (N := 23) (ty := .int) (v := ((hh20 0 16) + 1)) 0 (by decide) rfl rfl 16 (by decide) wnX6 wl68 rfl tyX6 tyX6_ok nmX6 rfl (by decide +kernel) rfl rfl (Nat.le_of_ble_eq_true rfl) rfl dX6_again_100 ?_
        refine xr_aload_n C dX6_again_103 2 rfl rfl ?_
        obtain ⟨hh22, ee21, hf⟩ := bV_some hf
        refine xr_callVv C (Cn := RX6) 0 (by decide) rfl rfl [] [] (c_X6_pass l dC dI cI cZ a hD (u2 hh20 0 16 ((hh20 0 16) + 1)) ee21) (cwV 0 C.2.2.1 gX6_again_X6_pass rfl rfl rfl (by decide +kernel) ⟨Nat.le_of_ble_eq_true rfl, Nat.le_of_ble_eq_true rfl⟩) rfl rfl (Nat.le_of_ble_eq_true rfl) dX6_again_104 ?_
        cases hf
        exact xr_vret C hlk hr dX6_again_107
      · rw [if_pos cd17] at hf
        refine xr_aload_n C dX6_again_68 2 rfl rfl ?_
        obtain ⟨hh24, ee23, hf⟩ := bV_some hf
        refine xr_callVv C (Cn := RX6) 0 (by decide) rfl rfl [] [] (c_X6_interrupt l dC dI cI cZ a hD h ee23) (cwV 0 C.2.2.1 gX6_again_X6_interrupt rfl rfl rfl (by decide +kernel) ⟨Nat.le_of_ble_eq_true rfl, Nat.le_of_ble_eq_true rfl⟩) rfl rfl (Nat.le_of_ble_eq_true rfl) dX6_again_69 ?_
        refine xr_goto C 89 dX6_again_72 (by decide) ?_
        refine xr_iload_n C dX6_again_89 1 rfl rfl ?_
        refine xr_if_eq C 103 dX6_again_90 (by decide) (fun c9 => absurd c9 (by decide)) (fun c9 => ?_)
        refine xr_aload_n C dX6_again_93 2 rfl rfl ?_
        refine xr_dup C dX6_again_94 rfl ?_
        refine xr_get C (ci := 6) (Cn := RX6) (T := TX6) (N := 23) (v := .int (hh24 0 16)) 0 (by decide) rfl rfl 16 (by decide) wnX6 wl68 rfl rfl dX6_again_95 ?_
        refine xr_iconst C (v := 1) dX6_again_98 (by decide +kernel) ?_
        refine xr_iadd C dX6_again_99 ?_
        refine xr_put C (ci := 6) (Cn := RX6) (T := TX6) (N := 23) (ty := .int) (v := ((hh24 0 16) + 1)) 0 (by decide) rfl rfl 16 (by decide) wnX6 wl68 rfl tyX6 tyX6_ok nmX6 rfl (by decide +kernel) rfl rfl (Nat.le_of_ble_eq_true rfl) rfl dX6_again_100 ?_
        refine xr_aload_n C dX6_again_103 2 rfl rfl ?_
        obtain ⟨hh26, ee25, hf⟩ := bV_some hf
        refine xr_callVv C (Cn := RX6) 0 (by decide) rfl rfl [] [] (c_X6_pass l dC dI cI cZ a hD (u2 hh24 0 16 ((hh24 0 16) + 1)) ee25) (cwV 0 C.2.2.1 gX6_again_X6_pass rfl rfl rfl (by decide +kernel) ⟨Nat.le_of_ble_eq_true rfl, Nat.le_of_ble_eq_true rfl⟩) rfl rfl (Nat.le_of_ble_eq_true rfl) dX6_again_104 ?_
        cases hf
        exact xr_vret C hlk hr dX6_again_107
def f_X6_writtenPages_4 : Nat → hp → Int32 → Int32 → Option Int32
  | 0, _, _, _ => none
  | n + 1, h0, x1, x2 => if 32 ≤ x2 then (some x1) else (gd (¬ (x2 < 0 ∨ 32 ≤ x2.toNatClampNeg)) (if h0 9 x2.toNatClampNeg = 0 then (gl (x1 + 0) (fun v4 => f_X6_writtenPages_4 n h0 v4 (x2 + 1))) else (gl (x1 + 1) (fun v5 => f_X6_writtenPages_4 n h0 v5 (x2 + 1)))))
def f_X6_writtenPages (h0 : hp)  : Option Int32 := f_X6_writtenPages_4 1000 h0 0 0
abbrev rmX6_writtenPages : Room := { frames := 0, cells := 0, slots := 0, locals := 0 }
set_option maxHeartbeats 4000000 in
set_option maxRecDepth 100000 in
theorem c_X6_writtenPages (l : Launch) (dC : Nat → ClassId) (dI : Nat → Nat → Nat) (cI cZ : ClassId) (a : Nat → Nat) (hD : xD 11 a) (h0 : hp)  {r9 : Int32} (hf : f_X6_writtenPages h0  = some r9) : XMi l yX6_writtenPages wsX6_writtenPages rmX6_writtenPages (dC, dI) vwCl (mty cI cZ) 11 a (mcf cI cZ a) h0 [.ref (a 0)] r9 h0 := by
  refine xm_i (cc := cX6_writtenPages) (maxL := 3) (ws' := wsX6_writtenPages.tail) (by decide) rfl hD (Nat.le_of_ble_eq_true rfl) [(0, .ref (a 0))] rfl RX6 rfl ?_
  intro p e s m args below meth c C hlk hr
  have wl34 : Cond.fieldLink RX6 34 "RewindBoxModel" "written" "[Z" ∈ wsX6_writtenPages := by decide +kernel
  have wnX6 : ∀ w ∈ u_ws RX6 TX6 23, w ∈ wsX6_writtenPages := by decide +kernel
  have lab4 : ∀ (n : Nat) (x1 : Int32) (x2 : Int32) , f_X6_writtenPages_4 n h0 x1 x2 = some r9 → XJ p l e rmX6_writtenPages s m args below meth c (dC, dI) vwCl 11 a (mcf cI cZ a) 3 (MQ below (XQi (dC, dI) vwCl 11 a (mcf cI cZ a) r9 h0) args s 0 0 (xA 11 a)) h0 [(0, .ref (a 0)), (1, .int x1), (2, .int x2)] [] 4 := by
    intro n
    induction n with
    | zero => intro x1 x2  hf; simp [f_X6_writtenPages_4] at hf
    | succ n ih =>
      intro x1 x2  hf
      rw [f_X6_writtenPages_4] at hf
      refine xr_iload_n C dX6_writtenPages_4 2 rfl rfl ?_
      refine xr_bipush C (v := 32) dX6_writtenPages_5 (by decide +kernel) ?_
      refine xr_icmp_ge C 33 dX6_writtenPages_7 (by decide) (fun cd1 => ?_) (fun cd1 => ?_)
      · rw [if_pos cd1] at hf
        refine xr_iload_n C dX6_writtenPages_33 1 rfl rfl ?_
        cases hf
        exact xr_iret C hlk hr dX6_writtenPages_34
      · rw [if_neg cd1] at hf
        refine xr_iload_n C dX6_writtenPages_10 1 rfl rfl ?_
        refine xr_aload_n C dX6_writtenPages_11 0 rfl rfl ?_
        refine xr_get C (ci := 6) (Cn := RX6) (T := TX6) (N := 23) (v := .ref (a 9)) 0 (by decide) rfl rfl 19 (by decide) wnX6 wl34 rfl rfl dX6_writtenPages_12 ?_
        refine xr_iload_n C dX6_writtenPages_15 2 rfl rfl ?_
        obtain ⟨gg2, hf⟩ := gd_some hf
        refine xr_zald C (v := h0 9 x2.toNatClampNeg) 9 (by decide) 1 rfl rfl gg2 rfl dX6_writtenPages_16 ?_
        refine xr_if_eq C 24 dX6_writtenPages_17 (by decide) (fun cd3 => ?_) (fun cd3 => ?_)
        · rw [if_pos cd3] at hf
          refine xr_iconst C (v := 0) dX6_writtenPages_24 (by decide +kernel) ?_
          refine xr_iadd C dX6_writtenPages_25 ?_
          refine xr_topi C (fun v4 ev4 => ?_)
          have hf := gl_at hf v4 ev4
          refine xr_istore_n C [(1, .int v4), (0, .ref (a 0)), (2, .int x2)] dX6_writtenPages_26 rfl (by decide) rfl ?_
          refine xr_iinc C [(2, .int (x2 + 1)), (1, .int v4), (0, .ref (a 0))] dX6_writtenPages_27 2 rfl rfl (by decide) rfl ?_
          refine xr_goto C 4 dX6_writtenPages_30 (by decide) ?_
          exact xr_sub C [2, 1, 0] rfl (ih  v4 (x2 + 1)  hf)
        · rw [if_neg cd3] at hf
          refine xr_iconst C (v := 1) dX6_writtenPages_20 (by decide +kernel) ?_
          refine xr_goto C 25 dX6_writtenPages_21 (by decide) ?_
          refine xr_iadd C dX6_writtenPages_25 ?_
          refine xr_topi C (fun v5 ev5 => ?_)
          have hf := gl_at hf v5 ev5
          refine xr_istore_n C [(1, .int v5), (0, .ref (a 0)), (2, .int x2)] dX6_writtenPages_26 rfl (by decide) rfl ?_
          refine xr_iinc C [(2, .int (x2 + 1)), (1, .int v5), (0, .ref (a 0))] dX6_writtenPages_27 2 rfl rfl (by decide) rfl ?_
          refine xr_goto C 4 dX6_writtenPages_30 (by decide) ?_
          exact xr_sub C [2, 1, 0] rfl (ih  v5 (x2 + 1)  hf)
  unfold f_X6_writtenPages at hf
  refine xr_iconst C (v := 0) dX6_writtenPages_0 (by decide +kernel) ?_
  refine xr_istore_n C [(1, .int 0), (0, .ref (a 0))] dX6_writtenPages_1 rfl (by decide) rfl ?_
  refine xr_iconst C (v := 0) dX6_writtenPages_2 (by decide +kernel) ?_
  refine xr_istore_n C [(2, .int 0), (1, .int 0), (0, .ref (a 0))] dX6_writtenPages_3 rfl (by decide) rfl ?_
  exact xr_sub C [2, 1, 0] rfl (lab4 1000  0 0  hf)
def f_X6_allPages_4 : Nat → hp → Int32 → Int32 → Option Int32
  | 0, _, _, _ => none
  | n + 1, h0, x1, x2 => if h0 0 17 ≤ x2 then (some x1) else (gd (¬ (x2 < 0 ∨ 40 ≤ x2.toNatClampNeg)) (gl (x1 + (h0 8 x2.toNatClampNeg)) (fun v3 => f_X6_allPages_4 n h0 v3 (x2 + 1))))
def f_X6_allPages (h0 : hp)  : Option Int32 := f_X6_allPages_4 1000 h0 0 0
abbrev rmX6_allPages : Room := { frames := 0, cells := 0, slots := 0, locals := 0 }
set_option maxHeartbeats 4000000 in
set_option maxRecDepth 100000 in
theorem c_X6_allPages (l : Launch) (dC : Nat → ClassId) (dI : Nat → Nat → Nat) (cI cZ : ClassId) (a : Nat → Nat) (hD : xD 11 a) (h0 : hp)  {r9 : Int32} (hf : f_X6_allPages h0  = some r9) : XMi l yX6_allPages wsX6_allPages rmX6_allPages (dC, dI) vwCl (mty cI cZ) 11 a (mcf cI cZ a) h0 [.ref (a 0)] r9 h0 := by
  refine xm_i (cc := cX6_allPages) (maxL := 3) (ws' := wsX6_allPages.tail) (by decide) rfl hD (Nat.le_of_ble_eq_true rfl) [(0, .ref (a 0))] rfl RX6 rfl ?_
  intro p e s m args below meth c C hlk hr
  have wl77 : Cond.fieldLink RX6 77 "RewindBoxModel" "snapshots" "I" ∈ wsX6_allPages := by decide +kernel
  have wnX6 : ∀ w ∈ u_ws RX6 TX6 23, w ∈ wsX6_allPages := by decide +kernel
  have wl31 : Cond.fieldLink RX6 31 "RewindBoxModel" "pagesOf" "[I" ∈ wsX6_allPages := by decide +kernel
  have lab4 : ∀ (n : Nat) (x1 : Int32) (x2 : Int32) , f_X6_allPages_4 n h0 x1 x2 = some r9 → XJ p l e rmX6_allPages s m args below meth c (dC, dI) vwCl 11 a (mcf cI cZ a) 3 (MQ below (XQi (dC, dI) vwCl 11 a (mcf cI cZ a) r9 h0) args s 0 0 (xA 11 a)) h0 [(0, .ref (a 0)), (1, .int x1), (2, .int x2)] [] 4 := by
    intro n
    induction n with
    | zero => intro x1 x2  hf; simp [f_X6_allPages_4] at hf
    | succ n ih =>
      intro x1 x2  hf
      rw [f_X6_allPages_4] at hf
      refine xr_iload_n C dX6_allPages_4 2 rfl rfl ?_
      refine xr_aload_n C dX6_allPages_5 0 rfl rfl ?_
      refine xr_get C (ci := 6) (Cn := RX6) (T := TX6) (N := 23) (v := .int (h0 0 17)) 0 (by decide) rfl rfl 17 (by decide) wnX6 wl77 rfl rfl dX6_allPages_6 ?_
      refine xr_icmp_ge C 27 dX6_allPages_9 (by decide) (fun cd1 => ?_) (fun cd1 => ?_)
      · rw [if_pos cd1] at hf
        refine xr_iload_n C dX6_allPages_27 1 rfl rfl ?_
        cases hf
        exact xr_iret C hlk hr dX6_allPages_28
      · rw [if_neg cd1] at hf
        refine xr_iload_n C dX6_allPages_12 1 rfl rfl ?_
        refine xr_aload_n C dX6_allPages_13 0 rfl rfl ?_
        refine xr_get C (ci := 6) (Cn := RX6) (T := TX6) (N := 23) (v := .ref (a 8)) 0 (by decide) rfl rfl 18 (by decide) wnX6 wl31 rfl rfl dX6_allPages_14 ?_
        refine xr_iload_n C dX6_allPages_17 2 rfl rfl ?_
        obtain ⟨gg2, hf⟩ := gd_some hf
        refine xr_iald C (v := h0 8 x2.toNatClampNeg) 8 (by decide) 0 rfl rfl gg2 rfl dX6_allPages_18 ?_
        refine xr_iadd C dX6_allPages_19 ?_
        refine xr_topi C (fun v3 ev3 => ?_)
        have hf := gl_at hf v3 ev3
        refine xr_istore_n C [(1, .int v3), (0, .ref (a 0)), (2, .int x2)] dX6_allPages_20 rfl (by decide) rfl ?_
        refine xr_iinc C [(2, .int (x2 + 1)), (1, .int v3), (0, .ref (a 0))] dX6_allPages_21 2 rfl rfl (by decide) rfl ?_
        refine xr_goto C 4 dX6_allPages_24 (by decide) ?_
        exact xr_sub C [2, 1, 0] rfl (ih  v3 (x2 + 1)  hf)
  unfold f_X6_allPages at hf
  refine xr_iconst C (v := 0) dX6_allPages_0 (by decide +kernel) ?_
  refine xr_istore_n C [(1, .int 0), (0, .ref (a 0))] dX6_allPages_1 rfl (by decide) rfl ?_
  refine xr_iconst C (v := 0) dX6_allPages_2 (by decide +kernel) ?_
  refine xr_istore_n C [(2, .int 0), (1, .int 0), (0, .ref (a 0))] dX6_allPages_3 rfl (by decide) rfl ?_
  exact xr_sub C [2, 1, 0] rfl (lab4 1000  0 0  hf)
def f_X6_isFull_67 (h0 : hp) (x4 : Int32) : Option Int32 := if h0 0 17 = 40 then (some 1) else (bR (f_X6_allPages h0) (fun rr9 => if (rr9 + x4) ≤ 300 then (some 0) else (some 1)))
def f_X6_isFull (h0 : hp) (x1 : Int32) (x2 : Int32) : Option Int32 := gd (¬ (h0 0 0) = 0) (if (((h0 0 11) + 1) - ((h0 0 11) + 1) / (h0 0 0) * (h0 0 0)) = 0 then (if x1 = 0 then (if ((x2.toUInt32 >>> ((24 : Int32).toUInt32 &&& Int32.toUInt32 31)).toInt32) = 8 then (bR (f_X6_writtenPages h0) (fun rr16 => bR (f_X6_meant h0 x2) (fun rr18 => gd (¬ ((rr18 / 16) < 0 ∨ 32 ≤ (rr18 / 16).toNatClampNeg)) (if h0 9 (rr18 / 16).toNatClampNeg = 0 then (gl (rr16 + 1) (fun v22 => f_X6_isFull_67 h0 v22)) else (gl (rr16 + 0) (fun v21 => f_X6_isFull_67 h0 v21)))))) else (bR (f_X6_writtenPages h0) (fun rr13 => gl (rr13 + 0) (fun v14 => f_X6_isFull_67 h0 v14)))) else (bR (f_X6_writtenPages h0) (fun rr5 => gl (rr5 + 0) (fun v6 => f_X6_isFull_67 h0 v6)))) else (some 0))
abbrev rmX6_isFull : Room := { frames := 1, cells := 0, slots := 0, locals := 22 }
set_option maxHeartbeats 4000000 in
set_option maxRecDepth 100000 in
theorem c_X6_isFull (l : Launch) (dC : Nat → ClassId) (dI : Nat → Nat → Nat) (cI cZ : ClassId) (a : Nat → Nat) (hD : xD 11 a) (h0 : hp) (x1 : Int32) (x2 : Int32) {r9 : Int32} (hf : f_X6_isFull h0 x1 x2 = some r9) : XMi l yX6_isFull wsX6_isFull rmX6_isFull (dC, dI) vwCl (mty cI cZ) 11 a (mcf cI cZ a) h0 [.ref (a 0), .int x1, .int x2] r9 h0 := by
  refine xm_i (cc := cX6_isFull) (maxL := 5) (ws' := wsX6_isFull.tail) (by decide) rfl hD (Nat.le_of_ble_eq_true rfl) [(0, .ref (a 0)), (1, .int x1), (2, .int x2)] rfl RX6 rfl ?_
  intro p e s m args below meth c C hlk hr
  have wl71 : Cond.fieldLink RX6 71 "RewindBoxModel" "end" "I" ∈ wsX6_isFull := by decide +kernel
  have wnX6 : ∀ w ∈ u_ws RX6 TX6 23, w ∈ wsX6_isFull := by decide +kernel
  have wl41 : Cond.fieldLink RX6 41 "RewindBoxModel" "interval" "I" ∈ wsX6_isFull := by decide +kernel
  have wl77 : Cond.fieldLink RX6 77 "RewindBoxModel" "snapshots" "I" ∈ wsX6_isFull := by decide +kernel
  have wl34 : Cond.fieldLink RX6 34 "RewindBoxModel" "written" "[Z" ∈ wsX6_isFull := by decide +kernel
  have lab67 : ∀ (x4 : Int32) , f_X6_isFull_67 h0 x4 = some r9 → XJ p l e rmX6_isFull s m args below meth c (dC, dI) vwCl 11 a (mcf cI cZ a) 5 (MQ below (XQi (dC, dI) vwCl 11 a (mcf cI cZ a) r9 h0) args s 0 0 (xA 11 a)) h0 [(0, .ref (a 0)), (4, .int x4)] [] 67 := by
    intro x4  hf
    unfold f_X6_isFull_67 at hf
    refine xr_aload_n C dX6_isFull_67 0 rfl rfl ?_
    refine xr_get C (ci := 6) (Cn := RX6) (T := TX6) (N := 23) (v := .int (h0 0 17)) 0 (by decide) rfl rfl 17 (by decide) wnX6 wl77 rfl rfl dX6_isFull_68 ?_
    refine xr_bipush C (v := 40) dX6_isFull_71 (by decide +kernel) ?_
    refine xr_icmp_eq C 89 dX6_isFull_73 (by decide) (fun cd7 => ?_) (fun cd7 => ?_)
    · rw [if_pos cd7] at hf
      refine xr_iconst C (v := 1) dX6_isFull_89 (by decide +kernel) ?_
      refine xr_goto C 94 dX6_isFull_90 (by decide) ?_
      cases hf
      exact xr_zret C hlk hr (by decide +kernel) dX6_isFull_94
    · rw [if_neg cd7] at hf
      refine xr_aload_n C dX6_isFull_76 0 rfl rfl ?_
      obtain ⟨rr9, ee8, hf⟩ := bR_some hf
      refine xr_callVi C (Cn := RX6) 0 (by decide) rfl rfl [] [] (c_X6_allPages l dC dI cI cZ a hD h0 ee8) (cwV 0 C.2.2.1 gX6_isFull_X6_allPages rfl rfl rfl (by decide +kernel) ⟨Nat.le_of_ble_eq_true rfl, Nat.le_of_ble_eq_true rfl⟩) rfl rfl (Nat.le_of_ble_eq_true rfl) dX6_isFull_77 ?_
      refine xr_iload C dX6_isFull_80 1 rfl ?_
      refine xr_iadd C dX6_isFull_82 ?_
      refine xr_sipush C (v := 300) dX6_isFull_83 (by decide +kernel) ?_
      refine xr_icmp_le C 93 dX6_isFull_86 (by decide) (fun cd10 => ?_) (fun cd10 => ?_)
      · rw [if_pos cd10] at hf
        refine xr_iconst C (v := 0) dX6_isFull_93 (by decide +kernel) ?_
        cases hf
        exact xr_zret C hlk hr (by decide +kernel) dX6_isFull_94
      · rw [if_neg cd10] at hf
        refine xr_iconst C (v := 1) dX6_isFull_89 (by decide +kernel) ?_
        refine xr_goto C 94 dX6_isFull_90 (by decide) ?_
        cases hf
        exact xr_zret C hlk hr (by decide +kernel) dX6_isFull_94
  unfold f_X6_isFull at hf
  refine xr_aload_n C dX6_isFull_0 0 rfl rfl ?_
  refine xr_get C (ci := 6) (Cn := RX6) (T := TX6) (N := 23) (v := .int (h0 0 11)) 0 (by decide) rfl rfl 11 (by decide) wnX6 wl71 rfl rfl dX6_isFull_1 ?_
  refine xr_iconst C (v := 1) dX6_isFull_4 (by decide +kernel) ?_
  refine xr_iadd C dX6_isFull_5 ?_
  refine xr_aload_n C dX6_isFull_6 0 rfl rfl ?_
  refine xr_get C (ci := 6) (Cn := RX6) (T := TX6) (N := 23) (v := .int (h0 0 0)) 0 (by decide) rfl rfl 0 (by decide) wnX6 wl41 rfl rfl dX6_isFull_7 ?_
  obtain ⟨gg1, hf⟩ := gd_some hf
  refine xr_irem C dX6_isFull_10 gg1 ?_
  refine xr_if_eq C 16 dX6_isFull_11 (by decide) (fun cd2 => ?_) (fun cd2 => ?_)
  · rw [if_pos cd2] at hf
    refine xr_iload_n C dX6_isFull_16 1 rfl rfl ?_
    refine xr_if_ne C 33 dX6_isFull_17 (by decide) (fun cd3 => ?_) (fun cd3 => ?_)
    · rw [if_neg cd3] at hf
      refine xr_iconst C (v := 0) dX6_isFull_33 (by decide +kernel) ?_
      refine xr_istore_n C [(3, .int 0), (0, .ref (a 0)), (1, .int x1), (2, .int x2)] dX6_isFull_34 rfl (by decide) rfl ?_
      refine xr_aload_n C dX6_isFull_35 1 rfl rfl ?_
      obtain ⟨rr5, ee4, hf⟩ := bR_some hf
      refine xr_callVi C (Cn := RX6) 0 (by decide) rfl rfl [] [] (c_X6_writtenPages l dC dI cI cZ a hD h0 ee4) (cwV 0 C.2.2.1 gX6_isFull_X6_writtenPages rfl rfl rfl (by decide +kernel) ⟨Nat.le_of_ble_eq_true rfl, Nat.le_of_ble_eq_true rfl⟩) rfl rfl (Nat.le_of_ble_eq_true rfl) dX6_isFull_36 ?_
      refine xr_iload_n C dX6_isFull_39 0 rfl rfl ?_
      refine xr_if_eq C 63 dX6_isFull_40 (by decide) (fun c9 => ?_) (fun c9 => absurd c9 (by decide))
      refine xr_iconst C (v := 0) dX6_isFull_63 (by decide +kernel) ?_
      refine xr_iadd C dX6_isFull_64 ?_
      refine xr_topi C (fun v6 ev6 => ?_)
      have hf := gl_at hf v6 ev6
      refine xr_istore C [(4, .int v6), (3, .int 0), (0, .ref (a 0)), (1, .int x1), (2, .int x2)] dX6_isFull_65 (by decide) rfl ?_
      exact xr_sub C [2, 0] rfl (lab67  v6  hf)
    · rw [if_pos cd3] at hf
      refine xr_iload_n C dX6_isFull_20 2 rfl rfl ?_
      refine xr_bipush C (v := 24) dX6_isFull_21 (by decide +kernel) ?_
      refine xr_iushr C dX6_isFull_23 ?_
      refine xr_bipush C (v := 8) dX6_isFull_24 (by decide +kernel) ?_
      refine xr_icmp_ne C 33 dX6_isFull_26 (by decide) (fun cd11 => ?_) (fun cd11 => ?_)
      · rw [if_neg cd11] at hf
        refine xr_iconst C (v := 0) dX6_isFull_33 (by decide +kernel) ?_
        refine xr_istore_n C [(3, .int 0), (0, .ref (a 0)), (1, .int x1), (2, .int x2)] dX6_isFull_34 rfl (by decide) rfl ?_
        refine xr_aload_n C dX6_isFull_35 1 rfl rfl ?_
        obtain ⟨rr13, ee12, hf⟩ := bR_some hf
        refine xr_callVi C (Cn := RX6) 0 (by decide) rfl rfl [] [] (c_X6_writtenPages l dC dI cI cZ a hD h0 ee12) (cwV 0 C.2.2.1 gX6_isFull_X6_writtenPages rfl rfl rfl (by decide +kernel) ⟨Nat.le_of_ble_eq_true rfl, Nat.le_of_ble_eq_true rfl⟩) rfl rfl (Nat.le_of_ble_eq_true rfl) dX6_isFull_36 ?_
        refine xr_iload_n C dX6_isFull_39 0 rfl rfl ?_
        refine xr_if_eq C 63 dX6_isFull_40 (by decide) (fun c9 => ?_) (fun c9 => absurd c9 (by decide))
        refine xr_iconst C (v := 0) dX6_isFull_63 (by decide +kernel) ?_
        refine xr_iadd C dX6_isFull_64 ?_
        refine xr_topi C (fun v14 ev14 => ?_)
        have hf := gl_at hf v14 ev14
        refine xr_istore C [(4, .int v14), (3, .int 0), (0, .ref (a 0)), (1, .int x1), (2, .int x2)] dX6_isFull_65 (by decide) rfl ?_
        exact xr_sub C [2, 0] rfl (lab67  v14  hf)
      · rw [if_pos cd11] at hf
        refine xr_iconst C (v := 1) dX6_isFull_29 (by decide +kernel) ?_
        refine xr_goto C 34 dX6_isFull_30 (by decide) ?_
        refine xr_istore_n C [(3, .int 1), (0, .ref (a 0)), (1, .int x1), (2, .int x2)] dX6_isFull_34 rfl (by decide) rfl ?_
        refine xr_aload_n C dX6_isFull_35 1 rfl rfl ?_
        obtain ⟨rr16, ee15, hf⟩ := bR_some hf
        refine xr_callVi C (Cn := RX6) 0 (by decide) rfl rfl [] [] (c_X6_writtenPages l dC dI cI cZ a hD h0 ee15) (cwV 0 C.2.2.1 gX6_isFull_X6_writtenPages rfl rfl rfl (by decide +kernel) ⟨Nat.le_of_ble_eq_true rfl, Nat.le_of_ble_eq_true rfl⟩) rfl rfl (Nat.le_of_ble_eq_true rfl) dX6_isFull_36 ?_
        refine xr_iload_n C dX6_isFull_39 0 rfl rfl ?_
        refine xr_if_eq C 63 dX6_isFull_40 (by decide) (fun c9 => absurd c9 (by decide)) (fun c9 => ?_)
        refine xr_aload_n C dX6_isFull_43 1 rfl rfl ?_
        refine xr_get C (ci := 6) (Cn := RX6) (T := TX6) (N := 23) (v := .ref (a 9)) 0 (by decide) rfl rfl 19 (by decide) wnX6 wl34 rfl rfl dX6_isFull_44 ?_
        refine xr_aload_n C dX6_isFull_47 1 rfl rfl ?_
        refine xr_iload_n C dX6_isFull_48 3 rfl rfl ?_
        obtain ⟨rr18, ee17, hf⟩ := bR_some hf
        refine xr_callVi C (Cn := RX6) 0 (by decide) rfl rfl [.int x2] [.ref (a 9), .int rr16] (c_X6_meant l dC dI cI cZ a hD h0 x2 ee17) (cwV 1 C.2.2.1 gX6_isFull_X6_meant rfl rfl rfl (by decide +kernel) ⟨Nat.le_of_ble_eq_true rfl, Nat.le_of_ble_eq_true rfl⟩) rfl rfl (Nat.le_of_ble_eq_true rfl) dX6_isFull_49 ?_
        refine xr_bipush C (v := 16) dX6_isFull_52 (by decide +kernel) ?_
        refine xr_idiv C dX6_isFull_54 (by decide) ?_
        obtain ⟨gg19, hf⟩ := gd_some hf
        refine xr_zald C (v := h0 9 (rr18 / 16).toNatClampNeg) 9 (by decide) 1 rfl rfl gg19 rfl dX6_isFull_55 ?_
        refine xr_if_ne C 63 dX6_isFull_56 (by decide) (fun cd20 => ?_) (fun cd20 => ?_)
        · rw [if_neg cd20] at hf
          refine xr_iconst C (v := 0) dX6_isFull_63 (by decide +kernel) ?_
          refine xr_iadd C dX6_isFull_64 ?_
          refine xr_topi C (fun v21 ev21 => ?_)
          have hf := gl_at hf v21 ev21
          refine xr_istore C [(4, .int v21), (3, .int 1), (0, .ref (a 0)), (1, .int x1), (2, .int x2)] dX6_isFull_65 (by decide) rfl ?_
          exact xr_sub C [2, 0] rfl (lab67  v21  hf)
        · rw [if_pos cd20] at hf
          refine xr_iconst C (v := 1) dX6_isFull_59 (by decide +kernel) ?_
          refine xr_goto C 64 dX6_isFull_60 (by decide) ?_
          refine xr_iadd C dX6_isFull_64 ?_
          refine xr_topi C (fun v22 ev22 => ?_)
          have hf := gl_at hf v22 ev22
          refine xr_istore C [(4, .int v22), (3, .int 1), (0, .ref (a 0)), (1, .int x1), (2, .int x2)] dX6_isFull_65 (by decide) rfl ?_
          exact xr_sub C [2, 0] rfl (lab67  v22  hf)
  · rw [if_neg cd2] at hf
    refine xr_iconst C (v := 0) dX6_isFull_14 (by decide +kernel) ?_
    cases hf
    exact xr_zret C hlk hr (by decide +kernel) dX6_isFull_15
def f_X6_note (h : hp) (x1 : Int32) (x2 : Int32) : Option hp := gd (¬ ((h 0 15) < 0 ∨ 300 ≤ (h 0 15).toNatClampNeg)) (gd (¬ ((h 0 15) < 0 ∨ 300 ≤ (h 0 15).toNatClampNeg)) (gd (¬ ((h 0 15) < 0 ∨ 300 ≤ (h 0 15).toNatClampNeg)) (some (u2 (u2 (u2 (u2 (u2 h 5 (h 0 15).toNatClampNeg (h 0 10)) 6 (h 0 15).toNatClampNeg x1) 7 (h 0 15).toNatClampNeg x2) 0 15 ((h 0 15) + 1)) 0 16 ((h 0 15) + 1)))))
abbrev rmX6_note : Room := { frames := 0, cells := 0, slots := 0, locals := 0 }
set_option maxHeartbeats 4000000 in
set_option maxRecDepth 100000 in
theorem c_X6_note (l : Launch) (dC : Nat → ClassId) (dI : Nat → Nat → Nat) (cI cZ : ClassId) (a : Nat → Nat) (hD : xD 11 a) (h : hp) (x1 : Int32) (x2 : Int32) {h9 : hp} (hf : f_X6_note h x1 x2 = some h9) : XMv l yX6_note wsX6_note rmX6_note (dC, dI) vwCl (mty cI cZ) 11 a (mcf cI cZ a) h [.ref (a 0), .int x1, .int x2] h9 := by
  refine xm_v (cc := cX6_note) (maxL := 3) (ws' := wsX6_note.tail) (by decide) rfl hD (Nat.le_of_ble_eq_true rfl) [(0, .ref (a 0)), (1, .int x1), (2, .int x2)] rfl RX6 rfl ?_
  intro p e s m args below meth c C hlk hr
  have wl22 : Cond.fieldLink RX6 22 "RewindBoxModel" "logAt" "[I" ∈ wsX6_note := by decide +kernel
  have wnX6 : ∀ w ∈ u_ws RX6 TX6 23, w ∈ wsX6_note := by decide +kernel
  have wl74 : Cond.fieldLink RX6 74 "RewindBoxModel" "entries" "I" ∈ wsX6_note := by decide +kernel
  have wl65 : Cond.fieldLink RX6 65 "RewindBoxModel" "position" "I" ∈ wsX6_note := by decide +kernel
  have wl25 : Cond.fieldLink RX6 25 "RewindBoxModel" "logKind" "[I" ∈ wsX6_note := by decide +kernel
  have wl28 : Cond.fieldLink RX6 28 "RewindBoxModel" "logInput" "[I" ∈ wsX6_note := by decide +kernel
  have wl68 : Cond.fieldLink RX6 68 "RewindBoxModel" "passed" "I" ∈ wsX6_note := by decide +kernel
  unfold f_X6_note at hf
  refine xr_aload_n C dX6_note_0 0 rfl rfl ?_
  refine xr_get C (ci := 6) (Cn := RX6) (T := TX6) (N := 23) (v := .ref (a 5)) 0 (by decide) rfl rfl 12 (by decide) wnX6 wl22 rfl rfl dX6_note_1 ?_
  refine xr_aload_n C dX6_note_4 0 rfl rfl ?_
  refine xr_get C (ci := 6) (Cn := RX6) (T := TX6) (N := 23) (v := .int (h 0 15)) 0 (by decide) rfl rfl 15 (by decide) wnX6 wl74 rfl rfl dX6_note_5 ?_
  refine xr_aload_n C dX6_note_8 0 rfl rfl ?_
  refine xr_get C (ci := 6) (Cn := RX6) (T := TX6) (N := 23) (v := .int (h 0 10)) 0 (by decide) rfl rfl 10 (by decide) wnX6 wl65 rfl rfl dX6_note_9 ?_
  obtain ⟨gg1, hf⟩ := gd_some hf
  refine xr_iast C 5 (by decide) 0 (fun _ => rfl) rfl gg1 dX6_note_12 ?_
  refine xr_aload_n C dX6_note_13 0 rfl rfl ?_
  refine xr_get C (ci := 6) (Cn := RX6) (T := TX6) (N := 23) (v := .ref (a 6)) 0 (by decide) rfl rfl 13 (by decide) wnX6 wl25 rfl rfl dX6_note_14 ?_
  refine xr_aload_n C dX6_note_17 0 rfl rfl ?_
  refine xr_get C (ci := 6) (Cn := RX6) (T := TX6) (N := 23) (v := .int (h 0 15)) 0 (by decide) rfl rfl 15 (by decide) wnX6 wl74 rfl rfl dX6_note_18 ?_
  refine xr_iload_n C dX6_note_21 1 rfl rfl ?_
  obtain ⟨gg2, hf⟩ := gd_some hf
  refine xr_iast C 6 (by decide) 0 (fun _ => rfl) rfl gg2 dX6_note_22 ?_
  refine xr_aload_n C dX6_note_23 0 rfl rfl ?_
  refine xr_get C (ci := 6) (Cn := RX6) (T := TX6) (N := 23) (v := .ref (a 7)) 0 (by decide) rfl rfl 14 (by decide) wnX6 wl28 rfl rfl dX6_note_24 ?_
  refine xr_aload_n C dX6_note_27 0 rfl rfl ?_
  refine xr_get C (ci := 6) (Cn := RX6) (T := TX6) (N := 23) (v := .int (h 0 15)) 0 (by decide) rfl rfl 15 (by decide) wnX6 wl74 rfl rfl dX6_note_28 ?_
  refine xr_iload_n C dX6_note_31 2 rfl rfl ?_
  obtain ⟨gg3, hf⟩ := gd_some hf
  refine xr_iast C 7 (by decide) 0 (fun _ => rfl) rfl gg3 dX6_note_32 ?_
  refine xr_aload_n C dX6_note_33 0 rfl rfl ?_
  refine xr_dup C dX6_note_34 rfl ?_
  refine xr_get C (ci := 6) (Cn := RX6) (T := TX6) (N := 23) (v := .int (h 0 15)) 0 (by decide) rfl rfl 15 (by decide) wnX6 wl74 rfl rfl dX6_note_35 ?_
  refine xr_iconst C (v := 1) dX6_note_38 (by decide +kernel) ?_
  refine xr_iadd C dX6_note_39 ?_
  refine xr_put C (ci := 6) (Cn := RX6) (T := TX6) (N := 23) (ty := .int) (v := ((h 0 15) + 1)) 0 (by decide) rfl rfl 15 (by decide) wnX6 wl74 rfl tyX6 tyX6_ok nmX6 rfl (by decide +kernel) rfl rfl (Nat.le_of_ble_eq_true rfl) rfl dX6_note_40 ?_
  refine xr_aload_n C dX6_note_43 0 rfl rfl ?_
  refine xr_aload_n C dX6_note_44 0 rfl rfl ?_
  refine xr_get C (ci := 6) (Cn := RX6) (T := TX6) (N := 23) (v := .int ((h 0 15) + 1)) 0 (by decide) rfl rfl 15 (by decide) wnX6 wl74 rfl rfl dX6_note_45 ?_
  refine xr_put C (ci := 6) (Cn := RX6) (T := TX6) (N := 23) (ty := .int) (v := ((h 0 15) + 1)) 0 (by decide) rfl rfl 16 (by decide) wnX6 wl68 rfl tyX6 tyX6_ok nmX6 rfl (by decide +kernel) rfl rfl (Nat.le_of_ble_eq_true rfl) rfl dX6_note_48 ?_
  cases hf
  exact xr_vret C hlk hr dX6_note_51
def f_X6_takeInput_19 : Nat → hp → Int32 → Int32 → Option (Int32 × hp)
  | 0, _, _, _ => none
  | n + 1, h, x1, x2 => if h 0 21 ≤ x2 then (some (x1, h)) else (gd (¬ ((x2 + 1) < 0 ∨ 100 ≤ (x2 + 1).toNatClampNeg)) (gd (¬ (x2 < 0 ∨ 100 ≤ x2.toNatClampNeg)) (f_X6_takeInput_19 n (u2 h 10 x2.toNatClampNeg (h 10 (x2 + 1).toNatClampNeg)) x1 (x2 + 1))))
def f_X6_takeInput (h : hp)  : Option (Int32 × hp) := gl (h 10 (0 : Int32).toNatClampNeg) (fun v1 => f_X6_takeInput_19 1000 (u2 h 0 21 ((h 0 21) - 1)) v1 0)
abbrev rmX6_takeInput : Room := { frames := 0, cells := 0, slots := 0, locals := 0 }
set_option maxHeartbeats 4000000 in
set_option maxRecDepth 100000 in
theorem c_X6_takeInput (l : Launch) (dC : Nat → ClassId) (dI : Nat → Nat → Nat) (cI cZ : ClassId) (a : Nat → Nat) (hD : xD 11 a) (h : hp)  {r9 : Int32} {h9 : hp} (hf : f_X6_takeInput h  = some (r9, h9)) : XMi l yX6_takeInput wsX6_takeInput rmX6_takeInput (dC, dI) vwCl (mty cI cZ) 11 a (mcf cI cZ a) h [.ref (a 0)] r9 h9 := by
  refine xm_i (cc := cX6_takeInput) (maxL := 3) (ws' := wsX6_takeInput.tail) (by decide) rfl hD (Nat.le_of_ble_eq_true rfl) [(0, .ref (a 0))] rfl RX6 rfl ?_
  intro p e s m args below meth c C hlk hr
  have wl38 : Cond.fieldLink RX6 38 "RewindBoxModel" "inputs" "[I" ∈ wsX6_takeInput := by decide +kernel
  have wnX6 : ∀ w ∈ u_ws RX6 TX6 23, w ∈ wsX6_takeInput := by decide +kernel
  have wl80 : Cond.fieldLink RX6 80 "RewindBoxModel" "waiting" "I" ∈ wsX6_takeInput := by decide +kernel
  have lab19 : ∀ (n : Nat) (h : hp) (x1 : Int32) (x2 : Int32) , f_X6_takeInput_19 n h x1 x2 = some (r9, h9) → XJ p l e rmX6_takeInput s m args below meth c (dC, dI) vwCl 11 a (mcf cI cZ a) 3 (MQ below (XQi (dC, dI) vwCl 11 a (mcf cI cZ a) r9 h9) args s 0 0 (xA 11 a)) h [(0, .ref (a 0)), (1, .int x1), (2, .int x2)] [] 19 := by
    intro n
    induction n with
    | zero => intro h x1 x2  hf; simp [f_X6_takeInput_19] at hf
    | succ n ih =>
      intro h x1 x2  hf
      rw [f_X6_takeInput_19] at hf
      refine xr_iload_n C dX6_takeInput_19 2 rfl rfl ?_
      refine xr_aload_n C dX6_takeInput_20 0 rfl rfl ?_
      refine xr_get C (ci := 6) (Cn := RX6) (T := TX6) (N := 23) (v := .int (h 0 21)) 0 (by decide) rfl rfl 21 (by decide) wnX6 wl80 rfl rfl dX6_takeInput_21 ?_
      refine xr_icmp_ge C 47 dX6_takeInput_24 (by decide) (fun cd2 => ?_) (fun cd2 => ?_)
      · rw [if_pos cd2] at hf
        refine xr_iload_n C dX6_takeInput_47 1 rfl rfl ?_
        cases hf
        exact xr_iret C hlk hr dX6_takeInput_48
      · rw [if_neg cd2] at hf
        refine xr_aload_n C dX6_takeInput_27 0 rfl rfl ?_
        refine xr_get C (ci := 6) (Cn := RX6) (T := TX6) (N := 23) (v := .ref (a 10)) 0 (by decide) rfl rfl 20 (by decide) wnX6 wl38 rfl rfl dX6_takeInput_28 ?_
        refine xr_iload_n C dX6_takeInput_31 2 rfl rfl ?_
        refine xr_aload_n C dX6_takeInput_32 0 rfl rfl ?_
        refine xr_get C (ci := 6) (Cn := RX6) (T := TX6) (N := 23) (v := .ref (a 10)) 0 (by decide) rfl rfl 20 (by decide) wnX6 wl38 rfl rfl dX6_takeInput_33 ?_
        refine xr_iload_n C dX6_takeInput_36 2 rfl rfl ?_
        refine xr_iconst C (v := 1) dX6_takeInput_37 (by decide +kernel) ?_
        refine xr_iadd C dX6_takeInput_38 ?_
        obtain ⟨gg3, hf⟩ := gd_some hf
        refine xr_iald C (v := h 10 (x2 + 1).toNatClampNeg) 10 (by decide) 0 rfl rfl gg3 rfl dX6_takeInput_39 ?_
        obtain ⟨gg4, hf⟩ := gd_some hf
        refine xr_iast C 10 (by decide) 0 (fun _ => rfl) rfl gg4 dX6_takeInput_40 ?_
        refine xr_iinc C [(2, .int (x2 + 1)), (0, .ref (a 0)), (1, .int x1)] dX6_takeInput_41 2 rfl rfl (by decide) rfl ?_
        refine xr_goto C 19 dX6_takeInput_44 (by decide) ?_
        exact xr_sub C [1, 2, 0] rfl (ih (u2 h 10 x2.toNatClampNeg (h 10 (x2 + 1).toNatClampNeg)) x1 (x2 + 1)  hf)
  unfold f_X6_takeInput at hf
  refine xr_aload_n C dX6_takeInput_0 0 rfl rfl ?_
  refine xr_get C (ci := 6) (Cn := RX6) (T := TX6) (N := 23) (v := .ref (a 10)) 0 (by decide) rfl rfl 20 (by decide) wnX6 wl38 rfl rfl dX6_takeInput_1 ?_
  refine xr_iconst C (v := 0) dX6_takeInput_4 (by decide +kernel) ?_
  refine xr_iald C (v := h 10 (0 : Int32).toNatClampNeg) 10 (by decide) 0 rfl rfl (by decide) rfl dX6_takeInput_5 ?_
  refine xr_topi C (fun v1 ev1 => ?_)
  have hf := gl_at hf v1 ev1
  refine xr_istore_n C [(1, .int v1), (0, .ref (a 0))] dX6_takeInput_6 rfl (by decide) rfl ?_
  refine xr_aload_n C dX6_takeInput_7 1 rfl rfl ?_
  refine xr_dup C dX6_takeInput_8 rfl ?_
  refine xr_get C (ci := 6) (Cn := RX6) (T := TX6) (N := 23) (v := .int (h 0 21)) 0 (by decide) rfl rfl 21 (by decide) wnX6 wl80 rfl rfl dX6_takeInput_9 ?_
  refine xr_iconst C (v := 1) dX6_takeInput_12 (by decide +kernel) ?_
  refine xr_isub C dX6_takeInput_13 ?_
  refine xr_put C (ci := 6) (Cn := RX6) (T := TX6) (N := 23) (ty := .int) (v := ((h 0 21) - 1)) 0 (by decide) rfl rfl 21 (by decide) wnX6 wl80 rfl tyX6 tyX6_ok nmX6 rfl (by decide +kernel) rfl rfl (Nat.le_of_ble_eq_true rfl) rfl dX6_takeInput_14 ?_
  refine xr_iconst C (v := 0) dX6_takeInput_17 (by decide +kernel) ?_
  refine xr_istore_n C [(2, .int 0), (1, .int v1), (0, .ref (a 0))] dX6_takeInput_18 rfl (by decide) rfl ?_
  exact xr_sub C [2, 1, 0] rfl (lab19 1000 (u2 h 0 21 ((h 0 21) - 1)) v1 0  hf)
end
section
def f_X6_live_162 (h : hp)  : Option (Int32 × hp) := gd (¬ (h 0 0) = 0) (if (((h 0 11) + 1) - ((h 0 11) + 1) / (h 0 0) * (h 0 0)) = 0 then (bR (f_X6_writtenPages (u2 h 0 11 ((h 0 11) + 1))) (fun rr16 => gd (¬ ((h 0 17) < 0 ∨ 40 ≤ (h 0 17).toNatClampNeg)) (bV (f_X6_pass (u2 (u2 (u2 h 0 11 ((h 0 11) + 1)) 8 (h 0 17).toNatClampNeg rr16) 0 17 ((h 0 17) + 1))) (fun hh19 => some (1, hh19))))) else (bV (f_X6_pass (u2 h 0 11 ((h 0 11) + 1))) (fun hh14 => some (1, hh14))))
def f_X6_live (h : hp)  : Option (Int32 × hp) := if h 0 22 = 0 then (gd (¬ ((h 0 4) < 0 ∨ 512 ≤ (h 0 4).toNatClampNeg)) (gl (h 2 (h 0 4).toNatClampNeg) (fun v3 => if ((v3.toUInt32 >>> ((24 : Int32).toUInt32 &&& Int32.toUInt32 31)).toInt32) = 12 then (if ((v3.toUInt32 >>> ((24 : Int32).toUInt32 &&& Int32.toUInt32 31)).toInt32) = 0 then (some (0, h)) else (if h 0 21 = 0 then (some (0, h)) else (if h 0 15 = 300 then (some (0, h)) else (bR (f_X6_isFull h 0 v3) (fun rr24 => if rr24 = 0 then (bM (f_X6_takeInput h) (fun rr27 hh28 => bV (f_X6_note hh28 1 rr27) (fun hh30 => bV (f_X6_instruct hh30 v3 rr27) (fun hh32 => f_X6_live_162 hh32 )))) else (some (0, h))))))) else (if ((v3.toUInt32 >>> ((24 : Int32).toUInt32 &&& Int32.toUInt32 31)).toInt32) = 0 then (some (0, h)) else (bR (f_X6_isFull h 0 v3) (fun rr7 => if rr7 = 0 then (bV (f_X6_instruct h v3 0) (fun hh10 => f_X6_live_162 hh10 )) else (some (0, h)))))))) else (if h 0 6 = 0 then (gd (¬ ((h 0 4) < 0 ∨ 512 ≤ (h 0 4).toNatClampNeg)) (gl (h 2 (h 0 4).toNatClampNeg) (fun v35 => if ((v35.toUInt32 >>> ((24 : Int32).toUInt32 &&& Int32.toUInt32 31)).toInt32) = 12 then (if ((v35.toUInt32 >>> ((24 : Int32).toUInt32 &&& Int32.toUInt32 31)).toInt32) = 0 then (some (0, h)) else (if h 0 21 = 0 then (some (0, h)) else (if h 0 15 = 300 then (some (0, h)) else (bR (f_X6_isFull h 0 v35) (fun rr47 => if rr47 = 0 then (bM (f_X6_takeInput h) (fun rr50 hh51 => bV (f_X6_note hh51 1 rr50) (fun hh53 => bV (f_X6_instruct hh53 v35 rr50) (fun hh55 => f_X6_live_162 hh55 )))) else (some (0, h))))))) else (if ((v35.toUInt32 >>> ((24 : Int32).toUInt32 &&& Int32.toUInt32 31)).toInt32) = 0 then (some (0, h)) else (bR (f_X6_isFull h 0 v35) (fun rr39 => if rr39 = 0 then (bV (f_X6_instruct h v35 0) (fun hh42 => f_X6_live_162 hh42 )) else (some (0, h)))))))) else (gd (¬ ((h 0 4) < 0 ∨ 512 ≤ (h 0 4).toNatClampNeg)) (gl (h 2 (h 0 4).toNatClampNeg) (fun v57 => if h 0 15 = 300 then (some (0, h)) else (bR (f_X6_isFull h 1 v57) (fun rr60 => if rr60 = 0 then (bV (f_X6_note h 2 0) (fun hh63 => bV (f_X6_interrupt (u2 hh63 0 22 0)) (fun hh65 => f_X6_live_162 hh65 ))) else (some (0, h))))))))
abbrev rmX6_live : Room := { frames := 3, cells := 0, slots := 0, locals := 69 }
set_option maxHeartbeats 4000000 in
set_option maxRecDepth 100000 in
theorem c_X6_live (l : Launch) (dC : Nat → ClassId) (dI : Nat → Nat → Nat) (cI cZ : ClassId) (a : Nat → Nat) (hD : xD 11 a) (h : hp)  {r9 : Int32} {h9 : hp} (hf : f_X6_live h  = some (r9, h9)) : XMi l yX6_live wsX6_live rmX6_live (dC, dI) vwCl (mty cI cZ) 11 a (mcf cI cZ a) h [.ref (a 0)] r9 h9 := by
  refine xm_i (cc := cX6_live) (maxL := 5) (ws' := wsX6_live.tail) (by decide) rfl hD (Nat.le_of_ble_eq_true rfl) [(0, .ref (a 0))] rfl RX6 rfl ?_
  intro p e s m args below meth c C hlk hr
  have wl83 : Cond.fieldLink RX6 83 "RewindBoxModel" "rang" "Z" ∈ wsX6_live := by decide +kernel
  have wnX6 : ∀ w ∈ u_ws RX6 TX6 23, w ∈ wsX6_live := by decide +kernel
  have wl13 : Cond.fieldLink RX6 13 "RewindBoxModel" "memory" "[I" ∈ wsX6_live := by decide +kernel
  have wl53 : Cond.fieldLink RX6 53 "RewindBoxModel" "pc" "I" ∈ wsX6_live := by decide +kernel
  have wl71 : Cond.fieldLink RX6 71 "RewindBoxModel" "end" "I" ∈ wsX6_live := by decide +kernel
  have wl41 : Cond.fieldLink RX6 41 "RewindBoxModel" "interval" "I" ∈ wsX6_live := by decide +kernel
  have wl31 : Cond.fieldLink RX6 31 "RewindBoxModel" "pagesOf" "[I" ∈ wsX6_live := by decide +kernel
  have wl77 : Cond.fieldLink RX6 77 "RewindBoxModel" "snapshots" "I" ∈ wsX6_live := by decide +kernel
  have wl80 : Cond.fieldLink RX6 80 "RewindBoxModel" "waiting" "I" ∈ wsX6_live := by decide +kernel
  have wl74 : Cond.fieldLink RX6 74 "RewindBoxModel" "entries" "I" ∈ wsX6_live := by decide +kernel
  have wl59 : Cond.fieldLink RX6 59 "RewindBoxModel" "open" "Z" ∈ wsX6_live := by decide +kernel
  have lab162 : ∀ (h : hp)  , f_X6_live_162 h  = some (r9, h9) → XJ p l e rmX6_live s m args below meth c (dC, dI) vwCl 11 a (mcf cI cZ a) 5 (MQ below (XQi (dC, dI) vwCl 11 a (mcf cI cZ a) r9 h9) args s 0 0 (xA 11 a)) h [(0, .ref (a 0))] [] 162 := by
    intro h   hf
    unfold f_X6_live_162 at hf
    refine xr_aload_n C dX6_live_162 0 rfl rfl ?_
    refine xr_dup C dX6_live_163 rfl ?_
    refine xr_get C (ci := 6) (Cn := RX6) (T := TX6) (N := 23) (v := .int (h 0 11)) 0 (by decide) rfl rfl 11 (by decide) wnX6 wl71 rfl rfl dX6_live_164 ?_
    refine xr_iconst C (v := 1) dX6_live_167 (by decide +kernel) ?_
    refine xr_iadd C dX6_live_168 ?_
    refine xr_put C (ci := 6) (Cn := RX6) (T := TX6) (N := 23) (ty := .int) (v := ((h 0 11) + 1)) 0 (by decide) rfl rfl 11 (by decide) wnX6 wl71 rfl tyX6 tyX6_ok nmX6 rfl (by decide +kernel) rfl rfl (Nat.le_of_ble_eq_true rfl) rfl dX6_live_169 ?_
    refine xr_aload_n C dX6_live_172 0 rfl rfl ?_
    refine xr_get C (ci := 6) (Cn := RX6) (T := TX6) (N := 23) (v := .int ((h 0 11) + 1)) 0 (by decide) rfl rfl 11 (by decide) wnX6 wl71 rfl rfl dX6_live_173 ?_
    refine xr_aload_n C dX6_live_176 0 rfl rfl ?_
    refine xr_get C (ci := 6) (Cn := RX6) (T := TX6) (N := 23) (v := .int (h 0 0)) 0 (by decide) rfl rfl 0 (by decide) wnX6 wl41 rfl rfl dX6_live_177 ?_
    obtain ⟨gg11, hf⟩ := gd_some hf
    refine xr_irem C dX6_live_180 gg11 ?_
    refine xr_if_ne C 207 dX6_live_181 (by decide) (fun cd12 => ?_) (fun cd12 => ?_)
    · rw [if_neg cd12] at hf
      refine xr_aload_n C dX6_live_207 0 rfl rfl ?_
      obtain ⟨hh14, ee13, hf⟩ := bV_some hf
      refine xr_callVv C (Cn := RX6) 0 (by decide) rfl rfl [] [] (c_X6_pass l dC dI cI cZ a hD (u2 h 0 11 ((h 0 11) + 1)) ee13) (cwV 0 C.2.2.1 gX6_live_X6_pass rfl rfl rfl (by decide +kernel) ⟨Nat.le_of_ble_eq_true rfl, Nat.le_of_ble_eq_true rfl⟩) rfl rfl (Nat.le_of_ble_eq_true rfl) dX6_live_208 ?_
      refine xr_iconst C (v := 1) dX6_live_211 (by decide +kernel) ?_
      cases hf
      exact xr_zret C hlk hr (by decide +kernel) dX6_live_212
    · rw [if_pos cd12] at hf
      refine xr_aload_n C dX6_live_184 0 rfl rfl ?_
      refine xr_get C (ci := 6) (Cn := RX6) (T := TX6) (N := 23) (v := .ref (a 8)) 0 (by decide) rfl rfl 18 (by decide) wnX6 wl31 rfl rfl dX6_live_185 ?_
      refine xr_aload_n C dX6_live_188 0 rfl rfl ?_
      refine xr_get C (ci := 6) (Cn := RX6) (T := TX6) (N := 23) (v := .int (h 0 17)) 0 (by decide) rfl rfl 17 (by decide) wnX6 wl77 rfl rfl dX6_live_189 ?_
      refine xr_aload_n C dX6_live_192 0 rfl rfl ?_
      obtain ⟨rr16, ee15, hf⟩ := bR_some hf
      refine xr_callVi C (Cn := RX6) 0 (by decide) rfl rfl [] [.int (h 0 17), .ref (a 8)] (c_X6_writtenPages l dC dI cI cZ a hD (u2 h 0 11 ((h 0 11) + 1)) ee15) (cwV 0 C.2.2.1 gX6_live_X6_writtenPages rfl rfl rfl (by decide +kernel) ⟨Nat.le_of_ble_eq_true rfl, Nat.le_of_ble_eq_true rfl⟩) rfl rfl (Nat.le_of_ble_eq_true rfl) dX6_live_193 ?_
      obtain ⟨gg17, hf⟩ := gd_some hf
      refine xr_iast C 8 (by decide) 0 (fun _ => rfl) rfl gg17 dX6_live_196 ?_
      refine xr_aload_n C dX6_live_197 0 rfl rfl ?_
      refine xr_dup C dX6_live_198 rfl ?_
      refine xr_get C (ci := 6) (Cn := RX6) (T := TX6) (N := 23) (v := .int (h 0 17)) 0 (by decide) rfl rfl 17 (by decide) wnX6 wl77 rfl rfl dX6_live_199 ?_
      refine xr_iconst C (v := 1) dX6_live_202 (by decide +kernel) ?_
      refine xr_iadd C dX6_live_203 ?_
      refine xr_put C (ci := 6) (Cn := RX6) (T := TX6) (N := 23) (ty := .int) (v := ((h 0 17) + 1)) 0 (by decide) rfl rfl 17 (by decide) wnX6 wl77 rfl tyX6 tyX6_ok nmX6 rfl (by decide +kernel) rfl rfl (Nat.le_of_ble_eq_true rfl) rfl dX6_live_204 ?_
      refine xr_aload_n C dX6_live_207 0 rfl rfl ?_
      obtain ⟨hh19, ee18, hf⟩ := bV_some hf
      refine xr_callVv C (Cn := RX6) 0 (by decide) rfl rfl [] [] (c_X6_pass l dC dI cI cZ a hD (u2 (u2 (u2 h 0 11 ((h 0 11) + 1)) 8 (h 0 17).toNatClampNeg rr16) 0 17 ((h 0 17) + 1)) ee18) (cwV 0 C.2.2.1 gX6_live_X6_pass rfl rfl rfl (by decide +kernel) ⟨Nat.le_of_ble_eq_true rfl, Nat.le_of_ble_eq_true rfl⟩) rfl rfl (Nat.le_of_ble_eq_true rfl) dX6_live_208 ?_
      refine xr_iconst C (v := 1) dX6_live_211 (by decide +kernel) ?_
      cases hf
      exact xr_zret C hlk hr (by decide +kernel) dX6_live_212
  unfold f_X6_live at hf
  refine xr_aload_n C dX6_live_0 0 rfl rfl ?_
  refine xr_get C (ci := 6) (Cn := RX6) (T := TX6) (N := 23) (v := .int (h 0 22)) 0 (by decide) rfl rfl 22 (by decide) wnX6 wl83 rfl rfl dX6_live_1 ?_
  refine xr_if_eq C 18 dX6_live_4 (by decide) (fun cd1 => ?_) (fun cd1 => ?_)
  · rw [if_pos cd1] at hf
    refine xr_iconst C (v := 0) dX6_live_18 (by decide +kernel) ?_
    refine xr_istore_n C [(1, .int 0), (0, .ref (a 0))] dX6_live_19 rfl (by decide) rfl ?_
    refine xr_aload_n C dX6_live_20 1 rfl rfl ?_
    refine xr_get C (ci := 6) (Cn := RX6) (T := TX6) (N := 23) (v := .ref (a 2)) 0 (by decide) rfl rfl 2 (by decide) wnX6 wl13 rfl rfl dX6_live_21 ?_
    refine xr_aload_n C dX6_live_24 1 rfl rfl ?_
    refine xr_get C (ci := 6) (Cn := RX6) (T := TX6) (N := 23) (v := .int (h 0 4)) 0 (by decide) rfl rfl 4 (by decide) wnX6 wl53 rfl rfl dX6_live_25 ?_
    obtain ⟨gg2, hf⟩ := gd_some hf
    refine xr_iald C (v := h 2 (h 0 4).toNatClampNeg) 2 (by decide) 0 rfl rfl gg2 rfl dX6_live_28 ?_
    refine xr_topi C (fun v3 ev3 => ?_)
    have hf := gl_at hf v3 ev3
    refine xr_istore_n C [(2, .int v3), (1, .int 0), (0, .ref (a 0))] dX6_live_29 rfl (by decide) rfl ?_
    refine xr_iload_n C dX6_live_30 1 rfl rfl ?_
    refine xr_if_ne C 47 dX6_live_31 (by decide) (fun c9 => absurd c9 (by decide)) (fun c9 => ?_)
    refine xr_iload_n C dX6_live_34 0 rfl rfl ?_
    refine xr_bipush C (v := 24) dX6_live_35 (by decide +kernel) ?_
    refine xr_iushr C dX6_live_37 ?_
    refine xr_bipush C (v := 12) dX6_live_38 (by decide +kernel) ?_
    refine xr_icmp_ne C 47 dX6_live_40 (by decide) (fun cd4 => ?_) (fun cd4 => ?_)
    · rw [if_neg cd4] at hf
      refine xr_iconst C (v := 0) dX6_live_47 (by decide +kernel) ?_
      refine xr_istore_n C [(3, .int 0), (2, .int v3), (1, .int 0), (0, .ref (a 0))] dX6_live_48 rfl (by decide) rfl ?_
      refine xr_iload_n C dX6_live_49 2 rfl rfl ?_
      refine xr_if_ne C 60 dX6_live_50 (by decide) (fun c9 => absurd c9 (by decide)) (fun c9 => ?_)
      refine xr_iload_n C dX6_live_53 1 rfl rfl ?_
      refine xr_bipush C (v := 24) dX6_live_54 (by decide +kernel) ?_
      refine xr_iushr C dX6_live_56 ?_
      refine xr_if_eq C 71 dX6_live_57 (by decide) (fun cd5 => ?_) (fun cd5 => ?_)
      · rw [if_pos cd5] at hf
        refine xr_iconst C (v := 0) dX6_live_71 (by decide +kernel) ?_
        cases hf
        exact xr_zret C hlk hr (by decide +kernel) dX6_live_72
      · rw [if_neg cd5] at hf
        refine xr_iload_n C dX6_live_60 0 rfl rfl ?_
        refine xr_if_eq C 73 dX6_live_61 (by decide) (fun c9 => ?_) (fun c9 => absurd c9 (by decide))
        refine xr_iload_n C dX6_live_73 2 rfl rfl ?_
        refine xr_if_ne C 81 dX6_live_74 (by decide) (fun c9 => absurd c9 (by decide)) (fun c9 => ?_)
        refine xr_iload_n C dX6_live_77 0 rfl rfl ?_
        refine xr_if_eq C 91 dX6_live_78 (by decide) (fun c9 => ?_) (fun c9 => absurd c9 (by decide))
        refine xr_aload_n C dX6_live_91 3 rfl rfl ?_
        refine xr_iload_n C dX6_live_92 2 rfl rfl ?_
        refine xr_iload_n C dX6_live_93 1 rfl rfl ?_
        obtain ⟨rr7, ee6, hf⟩ := bR_some hf
        refine xr_callVi C (Cn := RX6) 0 (by decide) rfl rfl [.int 0, .int v3] [] (c_X6_isFull l dC dI cI cZ a hD h 0 v3 ee6) (cwV 2 C.2.2.1 gX6_live_X6_isFull rfl rfl rfl (by decide +kernel) ⟨Nat.le_of_ble_eq_true rfl, Nat.le_of_ble_eq_true rfl⟩) rfl rfl (Nat.le_of_ble_eq_true rfl) dX6_live_94 ?_
        refine xr_if_eq C 102 dX6_live_97 (by decide) (fun cd8 => ?_) (fun cd8 => ?_)
        · rw [if_pos cd8] at hf
          refine xr_iload_n C dX6_live_102 0 rfl rfl ?_
          refine xr_if_eq C 113 dX6_live_103 (by decide) (fun c9 => ?_) (fun c9 => absurd c9 (by decide))
          refine xr_iconst C (v := 0) dX6_live_113 (by decide +kernel) ?_
          refine xr_istore C [(4, .int 0), (3, .int 0), (2, .int v3), (1, .int 0), (0, .ref (a 0))] dX6_live_114 (by decide) rfl ?_
          refine xr_iload_n C dX6_live_116 3 rfl rfl ?_
          refine xr_if_ne C 124 dX6_live_117 (by decide) (fun c9 => absurd c9 (by decide)) (fun c9 => ?_)
          refine xr_iload_n C dX6_live_120 1 rfl rfl ?_
          refine xr_if_eq C 139 dX6_live_121 (by decide) (fun c9 => ?_) (fun c9 => absurd c9 (by decide))
          refine xr_iload_n C dX6_live_139 3 rfl rfl ?_
          refine xr_if_eq C 155 dX6_live_140 (by decide) (fun c9 => ?_) (fun c9 => absurd c9 (by decide))
          refine xr_aload_n C dX6_live_155 4 rfl rfl ?_
          refine xr_iload_n C dX6_live_156 2 rfl rfl ?_
          refine xr_iload C dX6_live_157 0 rfl ?_
          obtain ⟨hh10, ee9, hf⟩ := bV_some hf
          refine xr_callVv C (Cn := RX6) 0 (by decide) rfl rfl [.int v3, .int 0] [] (c_X6_instruct l dC dI cI cZ a hD h v3 0 ee9) (cwV 2 C.2.2.1 gX6_live_X6_instruct rfl rfl rfl (by decide +kernel) ⟨Nat.le_of_ble_eq_true rfl, Nat.le_of_ble_eq_true rfl⟩) rfl rfl (Nat.le_of_ble_eq_true rfl) dX6_live_159 ?_
          exact xr_sub C [4] rfl (lab162 hh10   hf)
        · rw [if_neg cd8] at hf
          refine xr_iconst C (v := 0) dX6_live_100 (by decide +kernel) ?_
          cases hf
          exact xr_zret C hlk hr (by decide +kernel) dX6_live_101
    · rw [if_pos cd4] at hf
      refine xr_iconst C (v := 1) dX6_live_43 (by decide +kernel) ?_
      refine xr_goto C 48 dX6_live_44 (by decide) ?_
      refine xr_istore_n C [(3, .int 1), (2, .int v3), (1, .int 0), (0, .ref (a 0))] dX6_live_48 rfl (by decide) rfl ?_
      refine xr_iload_n C dX6_live_49 2 rfl rfl ?_
      refine xr_if_ne C 60 dX6_live_50 (by decide) (fun c9 => absurd c9 (by decide)) (fun c9 => ?_)
      refine xr_iload_n C dX6_live_53 1 rfl rfl ?_
      refine xr_bipush C (v := 24) dX6_live_54 (by decide +kernel) ?_
      refine xr_iushr C dX6_live_56 ?_
      refine xr_if_eq C 71 dX6_live_57 (by decide) (fun cd20 => ?_) (fun cd20 => ?_)
      · rw [if_pos cd20] at hf
        refine xr_iconst C (v := 0) dX6_live_71 (by decide +kernel) ?_
        cases hf
        exact xr_zret C hlk hr (by decide +kernel) dX6_live_72
      · rw [if_neg cd20] at hf
        refine xr_iload_n C dX6_live_60 0 rfl rfl ?_
        refine xr_if_eq C 73 dX6_live_61 (by decide) (fun c9 => absurd c9 (by decide)) (fun c9 => ?_)
        refine xr_aload_n C dX6_live_64 3 rfl rfl ?_
        refine xr_get C (ci := 6) (Cn := RX6) (T := TX6) (N := 23) (v := .int (h 0 21)) 0 (by decide) rfl rfl 21 (by decide) wnX6 wl80 rfl rfl dX6_live_65 ?_
        refine xr_if_ne C 73 dX6_live_68 (by decide) (fun cd21 => ?_) (fun cd21 => ?_)
        · rw [if_neg cd21] at hf
          refine xr_iload_n C dX6_live_73 2 rfl rfl ?_
          refine xr_if_ne C 81 dX6_live_74 (by decide) (fun c9 => absurd c9 (by decide)) (fun c9 => ?_)
          refine xr_iload_n C dX6_live_77 0 rfl rfl ?_
          refine xr_if_eq C 91 dX6_live_78 (by decide) (fun c9 => absurd c9 (by decide)) (fun c9 => ?_)
          refine xr_aload_n C dX6_live_81 3 rfl rfl ?_
          refine xr_get C (ci := 6) (Cn := RX6) (T := TX6) (N := 23) (v := .int (h 0 15)) 0 (by decide) rfl rfl 15 (by decide) wnX6 wl74 rfl rfl dX6_live_82 ?_
          refine xr_sipush C (v := 300) dX6_live_85 (by decide +kernel) ?_
          refine xr_icmp_eq C 100 dX6_live_88 (by decide) (fun cd22 => ?_) (fun cd22 => ?_)
          · rw [if_pos cd22] at hf
            refine xr_iconst C (v := 0) dX6_live_100 (by decide +kernel) ?_
            cases hf
            exact xr_zret C hlk hr (by decide +kernel) dX6_live_101
          · rw [if_neg cd22] at hf
            refine xr_aload_n C dX6_live_91 3 rfl rfl ?_
            refine xr_iload_n C dX6_live_92 2 rfl rfl ?_
            refine xr_iload_n C dX6_live_93 1 rfl rfl ?_
            obtain ⟨rr24, ee23, hf⟩ := bR_some hf
            refine xr_callVi C (Cn := RX6) 0 (by decide) rfl rfl [.int 0, .int v3] [] (c_X6_isFull l dC dI cI cZ a hD h 0 v3 ee23) (cwV 2 C.2.2.1 gX6_live_X6_isFull rfl rfl rfl (by decide +kernel) ⟨Nat.le_of_ble_eq_true rfl, Nat.le_of_ble_eq_true rfl⟩) rfl rfl (Nat.le_of_ble_eq_true rfl) dX6_live_94 ?_
            refine xr_if_eq C 102 dX6_live_97 (by decide) (fun cd25 => ?_) (fun cd25 => ?_)
            · rw [if_pos cd25] at hf
              refine xr_iload_n C dX6_live_102 0 rfl rfl ?_
              refine xr_if_eq C 113 dX6_live_103 (by decide) (fun c9 => absurd c9 (by decide)) (fun c9 => ?_)
              refine xr_aload_n C dX6_live_106 3 rfl rfl ?_
              obtain ⟨rr27, hh28, ee26, hf⟩ := bM_some hf
              refine xr_callVi C (Cn := RX6) 0 (by decide) rfl rfl [] [] (c_X6_takeInput l dC dI cI cZ a hD h ee26) (cwV 0 C.2.2.1 gX6_live_X6_takeInput rfl rfl rfl (by decide +kernel) ⟨Nat.le_of_ble_eq_true rfl, Nat.le_of_ble_eq_true rfl⟩) rfl rfl (Nat.le_of_ble_eq_true rfl) dX6_live_107 ?_
              refine xr_goto C 114 dX6_live_110 (by decide) ?_
              refine xr_istore C [(4, .int rr27), (3, .int 1), (2, .int v3), (1, .int 0), (0, .ref (a 0))] dX6_live_114 (by decide) rfl ?_
              refine xr_iload_n C dX6_live_116 3 rfl rfl ?_
              refine xr_if_ne C 124 dX6_live_117 (by decide) (fun c9 => absurd c9 (by decide)) (fun c9 => ?_)
              refine xr_iload_n C dX6_live_120 1 rfl rfl ?_
              refine xr_if_eq C 139 dX6_live_121 (by decide) (fun c9 => absurd c9 (by decide)) (fun c9 => ?_)
              refine xr_aload_n C dX6_live_124 4 rfl rfl ?_
              refine xr_iload_n C dX6_live_125 3 rfl rfl ?_
              refine xr_if_eq C 133 dX6_live_126 (by decide) (fun c9 => ?_) (fun c9 => absurd c9 (by decide))
              refine xr_iconst C (v := 1) dX6_live_133 (by decide +kernel) ?_
              refine xr_iload C dX6_live_134 0 rfl ?_
              obtain ⟨hh30, ee29, hf⟩ := bV_some hf
              refine xr_callVv C (Cn := RX6) 0 (by decide) rfl rfl [.int 1, .int rr27] [] (c_X6_note l dC dI cI cZ a hD hh28 1 rr27 ee29) (cwV 2 C.2.2.1 gX6_live_X6_note rfl rfl rfl (by decide +kernel) ⟨Nat.le_of_ble_eq_true rfl, Nat.le_of_ble_eq_true rfl⟩) rfl rfl (Nat.le_of_ble_eq_true rfl) dX6_live_136 ?_
              refine xr_iload_n C dX6_live_139 3 rfl rfl ?_
              refine xr_if_eq C 155 dX6_live_140 (by decide) (fun c9 => ?_) (fun c9 => absurd c9 (by decide))
              refine xr_aload_n C dX6_live_155 4 rfl rfl ?_
              refine xr_iload_n C dX6_live_156 2 rfl rfl ?_
              refine xr_iload C dX6_live_157 0 rfl ?_
              obtain ⟨hh32, ee31, hf⟩ := bV_some hf
              refine xr_callVv C (Cn := RX6) 0 (by decide) rfl rfl [.int v3, .int rr27] [] (c_X6_instruct l dC dI cI cZ a hD hh30 v3 rr27 ee31) (cwV 2 C.2.2.1 gX6_live_X6_instruct rfl rfl rfl (by decide +kernel) ⟨Nat.le_of_ble_eq_true rfl, Nat.le_of_ble_eq_true rfl⟩) rfl rfl (Nat.le_of_ble_eq_true rfl) dX6_live_159 ?_
              exact xr_sub C [4] rfl (lab162 hh32   hf)
            · rw [if_neg cd25] at hf
              refine xr_iconst C (v := 0) dX6_live_100 (by decide +kernel) ?_
              cases hf
              exact xr_zret C hlk hr (by decide +kernel) dX6_live_101
        · rw [if_pos cd21] at hf
          refine xr_iconst C (v := 0) dX6_live_71 (by decide +kernel) ?_
          cases hf
          exact xr_zret C hlk hr (by decide +kernel) dX6_live_72
  · rw [if_neg cd1] at hf
    refine xr_aload_n C dX6_live_7 0 rfl rfl ?_
    refine xr_get C (ci := 6) (Cn := RX6) (T := TX6) (N := 23) (v := .int (h 0 6)) 0 (by decide) rfl rfl 6 (by decide) wnX6 wl59 rfl rfl dX6_live_8 ?_
    refine xr_if_eq C 18 dX6_live_11 (by decide) (fun cd33 => ?_) (fun cd33 => ?_)
    · rw [if_pos cd33] at hf
      refine xr_iconst C (v := 0) dX6_live_18 (by decide +kernel) ?_
      refine xr_istore_n C [(1, .int 0), (0, .ref (a 0))] dX6_live_19 rfl (by decide) rfl ?_
      refine xr_aload_n C dX6_live_20 1 rfl rfl ?_
      refine xr_get C (ci := 6) (Cn := RX6) (T := TX6) (N := 23) (v := .ref (a 2)) 0 (by decide) rfl rfl 2 (by decide) wnX6 wl13 rfl rfl dX6_live_21 ?_
      refine xr_aload_n C dX6_live_24 1 rfl rfl ?_
      refine xr_get C (ci := 6) (Cn := RX6) (T := TX6) (N := 23) (v := .int (h 0 4)) 0 (by decide) rfl rfl 4 (by decide) wnX6 wl53 rfl rfl dX6_live_25 ?_
      obtain ⟨gg34, hf⟩ := gd_some hf
      refine xr_iald C (v := h 2 (h 0 4).toNatClampNeg) 2 (by decide) 0 rfl rfl gg34 rfl dX6_live_28 ?_
      refine xr_topi C (fun v35 ev35 => ?_)
      have hf := gl_at hf v35 ev35
      refine xr_istore_n C [(2, .int v35), (1, .int 0), (0, .ref (a 0))] dX6_live_29 rfl (by decide) rfl ?_
      refine xr_iload_n C dX6_live_30 1 rfl rfl ?_
      refine xr_if_ne C 47 dX6_live_31 (by decide) (fun c9 => absurd c9 (by decide)) (fun c9 => ?_)
      refine xr_iload_n C dX6_live_34 0 rfl rfl ?_
      refine xr_bipush C (v := 24) dX6_live_35 (by decide +kernel) ?_
      refine xr_iushr C dX6_live_37 ?_
      refine xr_bipush C (v := 12) dX6_live_38 (by decide +kernel) ?_
      refine xr_icmp_ne C 47 dX6_live_40 (by decide) (fun cd36 => ?_) (fun cd36 => ?_)
      · rw [if_neg cd36] at hf
        refine xr_iconst C (v := 0) dX6_live_47 (by decide +kernel) ?_
        refine xr_istore_n C [(3, .int 0), (2, .int v35), (1, .int 0), (0, .ref (a 0))] dX6_live_48 rfl (by decide) rfl ?_
        refine xr_iload_n C dX6_live_49 2 rfl rfl ?_
        refine xr_if_ne C 60 dX6_live_50 (by decide) (fun c9 => absurd c9 (by decide)) (fun c9 => ?_)
        refine xr_iload_n C dX6_live_53 1 rfl rfl ?_
        refine xr_bipush C (v := 24) dX6_live_54 (by decide +kernel) ?_
        refine xr_iushr C dX6_live_56 ?_
        refine xr_if_eq C 71 dX6_live_57 (by decide) (fun cd37 => ?_) (fun cd37 => ?_)
        · rw [if_pos cd37] at hf
          refine xr_iconst C (v := 0) dX6_live_71 (by decide +kernel) ?_
          cases hf
          exact xr_zret C hlk hr (by decide +kernel) dX6_live_72
        · rw [if_neg cd37] at hf
          refine xr_iload_n C dX6_live_60 0 rfl rfl ?_
          refine xr_if_eq C 73 dX6_live_61 (by decide) (fun c9 => ?_) (fun c9 => absurd c9 (by decide))
          refine xr_iload_n C dX6_live_73 2 rfl rfl ?_
          refine xr_if_ne C 81 dX6_live_74 (by decide) (fun c9 => absurd c9 (by decide)) (fun c9 => ?_)
          refine xr_iload_n C dX6_live_77 0 rfl rfl ?_
          refine xr_if_eq C 91 dX6_live_78 (by decide) (fun c9 => ?_) (fun c9 => absurd c9 (by decide))
          refine xr_aload_n C dX6_live_91 3 rfl rfl ?_
          refine xr_iload_n C dX6_live_92 2 rfl rfl ?_
          refine xr_iload_n C dX6_live_93 1 rfl rfl ?_
          obtain ⟨rr39, ee38, hf⟩ := bR_some hf
          refine xr_callVi C (Cn := RX6) 0 (by decide) rfl rfl [.int 0, .int v35] [] (c_X6_isFull l dC dI cI cZ a hD h 0 v35 ee38) (cwV 2 C.2.2.1 gX6_live_X6_isFull rfl rfl rfl (by decide +kernel) ⟨Nat.le_of_ble_eq_true rfl, Nat.le_of_ble_eq_true rfl⟩) rfl rfl (Nat.le_of_ble_eq_true rfl) dX6_live_94 ?_
          refine xr_if_eq C 102 dX6_live_97 (by decide) (fun cd40 => ?_) (fun cd40 => ?_)
          · rw [if_pos cd40] at hf
            refine xr_iload_n C dX6_live_102 0 rfl rfl ?_
            refine xr_if_eq C 113 dX6_live_103 (by decide) (fun c9 => ?_) (fun c9 => absurd c9 (by decide))
            refine xr_iconst C (v := 0) dX6_live_113 (by decide +kernel) ?_
            refine xr_istore C [(4, .int 0), (3, .int 0), (2, .int v35), (1, .int 0), (0, .ref (a 0))] dX6_live_114 (by decide) rfl ?_
            refine xr_iload_n C dX6_live_116 3 rfl rfl ?_
            refine xr_if_ne C 124 dX6_live_117 (by decide) (fun c9 => absurd c9 (by decide)) (fun c9 => ?_)
            refine xr_iload_n C dX6_live_120 1 rfl rfl ?_
            refine xr_if_eq C 139 dX6_live_121 (by decide) (fun c9 => ?_) (fun c9 => absurd c9 (by decide))
            refine xr_iload_n C dX6_live_139 3 rfl rfl ?_
            refine xr_if_eq C 155 dX6_live_140 (by decide) (fun c9 => ?_) (fun c9 => absurd c9 (by decide))
            refine xr_aload_n C dX6_live_155 4 rfl rfl ?_
            refine xr_iload_n C dX6_live_156 2 rfl rfl ?_
            refine xr_iload C dX6_live_157 0 rfl ?_
            obtain ⟨hh42, ee41, hf⟩ := bV_some hf
            refine xr_callVv C (Cn := RX6) 0 (by decide) rfl rfl [.int v35, .int 0] [] (c_X6_instruct l dC dI cI cZ a hD h v35 0 ee41) (cwV 2 C.2.2.1 gX6_live_X6_instruct rfl rfl rfl (by decide +kernel) ⟨Nat.le_of_ble_eq_true rfl, Nat.le_of_ble_eq_true rfl⟩) rfl rfl (Nat.le_of_ble_eq_true rfl) dX6_live_159 ?_
            exact xr_sub C [4] rfl (lab162 hh42   hf)
          · rw [if_neg cd40] at hf
            refine xr_iconst C (v := 0) dX6_live_100 (by decide +kernel) ?_
            cases hf
            exact xr_zret C hlk hr (by decide +kernel) dX6_live_101
      · rw [if_pos cd36] at hf
        refine xr_iconst C (v := 1) dX6_live_43 (by decide +kernel) ?_
        refine xr_goto C 48 dX6_live_44 (by decide) ?_
        refine xr_istore_n C [(3, .int 1), (2, .int v35), (1, .int 0), (0, .ref (a 0))] dX6_live_48 rfl (by decide) rfl ?_
        refine xr_iload_n C dX6_live_49 2 rfl rfl ?_
        refine xr_if_ne C 60 dX6_live_50 (by decide) (fun c9 => absurd c9 (by decide)) (fun c9 => ?_)
        refine xr_iload_n C dX6_live_53 1 rfl rfl ?_
        refine xr_bipush C (v := 24) dX6_live_54 (by decide +kernel) ?_
        refine xr_iushr C dX6_live_56 ?_
        refine xr_if_eq C 71 dX6_live_57 (by decide) (fun cd43 => ?_) (fun cd43 => ?_)
        · rw [if_pos cd43] at hf
          refine xr_iconst C (v := 0) dX6_live_71 (by decide +kernel) ?_
          cases hf
          exact xr_zret C hlk hr (by decide +kernel) dX6_live_72
        · rw [if_neg cd43] at hf
          refine xr_iload_n C dX6_live_60 0 rfl rfl ?_
          refine xr_if_eq C 73 dX6_live_61 (by decide) (fun c9 => absurd c9 (by decide)) (fun c9 => ?_)
          refine xr_aload_n C dX6_live_64 3 rfl rfl ?_
          refine xr_get C (ci := 6) (Cn := RX6) (T := TX6) (N := 23) (v := .int (h 0 21)) 0 (by decide) rfl rfl 21 (by decide) wnX6 wl80 rfl rfl dX6_live_65 ?_
          refine xr_if_ne C 73 dX6_live_68 (by decide) (fun cd44 => ?_) (fun cd44 => ?_)
          · rw [if_neg cd44] at hf
            refine xr_iload_n C dX6_live_73 2 rfl rfl ?_
            refine xr_if_ne C 81 dX6_live_74 (by decide) (fun c9 => absurd c9 (by decide)) (fun c9 => ?_)
            refine xr_iload_n C dX6_live_77 0 rfl rfl ?_
            refine xr_if_eq C 91 dX6_live_78 (by decide) (fun c9 => absurd c9 (by decide)) (fun c9 => ?_)
            refine xr_aload_n C dX6_live_81 3 rfl rfl ?_
            refine xr_get C (ci := 6) (Cn := RX6) (T := TX6) (N := 23) (v := .int (h 0 15)) 0 (by decide) rfl rfl 15 (by decide) wnX6 wl74 rfl rfl dX6_live_82 ?_
            refine xr_sipush C (v := 300) dX6_live_85 (by decide +kernel) ?_
            refine xr_icmp_eq C 100 dX6_live_88 (by decide) (fun cd45 => ?_) (fun cd45 => ?_)
            · rw [if_pos cd45] at hf
              refine xr_iconst C (v := 0) dX6_live_100 (by decide +kernel) ?_
              cases hf
              exact xr_zret C hlk hr (by decide +kernel) dX6_live_101
            · rw [if_neg cd45] at hf
              refine xr_aload_n C dX6_live_91 3 rfl rfl ?_
              refine xr_iload_n C dX6_live_92 2 rfl rfl ?_
              refine xr_iload_n C dX6_live_93 1 rfl rfl ?_
              obtain ⟨rr47, ee46, hf⟩ := bR_some hf
              refine xr_callVi C (Cn := RX6) 0 (by decide) rfl rfl [.int 0, .int v35] [] (c_X6_isFull l dC dI cI cZ a hD h 0 v35 ee46) (cwV 2 C.2.2.1 gX6_live_X6_isFull rfl rfl rfl (by decide +kernel) ⟨Nat.le_of_ble_eq_true rfl, Nat.le_of_ble_eq_true rfl⟩) rfl rfl (Nat.le_of_ble_eq_true rfl) dX6_live_94 ?_
              refine xr_if_eq C 102 dX6_live_97 (by decide) (fun cd48 => ?_) (fun cd48 => ?_)
              · rw [if_pos cd48] at hf
                refine xr_iload_n C dX6_live_102 0 rfl rfl ?_
                refine xr_if_eq C 113 dX6_live_103 (by decide) (fun c9 => absurd c9 (by decide)) (fun c9 => ?_)
                refine xr_aload_n C dX6_live_106 3 rfl rfl ?_
                obtain ⟨rr50, hh51, ee49, hf⟩ := bM_some hf
                refine xr_callVi C (Cn := RX6) 0 (by decide) rfl rfl [] [] (c_X6_takeInput l dC dI cI cZ a hD h ee49) (cwV 0 C.2.2.1 gX6_live_X6_takeInput rfl rfl rfl (by decide +kernel) ⟨Nat.le_of_ble_eq_true rfl, Nat.le_of_ble_eq_true rfl⟩) rfl rfl (Nat.le_of_ble_eq_true rfl) dX6_live_107 ?_
                refine xr_goto C 114 dX6_live_110 (by decide) ?_
                refine xr_istore C [(4, .int rr50), (3, .int 1), (2, .int v35), (1, .int 0), (0, .ref (a 0))] dX6_live_114 (by decide) rfl ?_
                refine xr_iload_n C dX6_live_116 3 rfl rfl ?_
                refine xr_if_ne C 124 dX6_live_117 (by decide) (fun c9 => absurd c9 (by decide)) (fun c9 => ?_)
                refine xr_iload_n C dX6_live_120 1 rfl rfl ?_
                refine xr_if_eq C 139 dX6_live_121 (by decide) (fun c9 => absurd c9 (by decide)) (fun c9 => ?_)
                refine xr_aload_n C dX6_live_124 4 rfl rfl ?_
                refine xr_iload_n C dX6_live_125 3 rfl rfl ?_
                refine xr_if_eq C 133 dX6_live_126 (by decide) (fun c9 => ?_) (fun c9 => absurd c9 (by decide))
                refine xr_iconst C (v := 1) dX6_live_133 (by decide +kernel) ?_
                refine xr_iload C dX6_live_134 0 rfl ?_
                obtain ⟨hh53, ee52, hf⟩ := bV_some hf
                refine xr_callVv C (Cn := RX6) 0 (by decide) rfl rfl [.int 1, .int rr50] [] (c_X6_note l dC dI cI cZ a hD hh51 1 rr50 ee52) (cwV 2 C.2.2.1 gX6_live_X6_note rfl rfl rfl (by decide +kernel) ⟨Nat.le_of_ble_eq_true rfl, Nat.le_of_ble_eq_true rfl⟩) rfl rfl (Nat.le_of_ble_eq_true rfl) dX6_live_136 ?_
                refine xr_iload_n C dX6_live_139 3 rfl rfl ?_
                refine xr_if_eq C 155 dX6_live_140 (by decide) (fun c9 => ?_) (fun c9 => absurd c9 (by decide))
                refine xr_aload_n C dX6_live_155 4 rfl rfl ?_
                refine xr_iload_n C dX6_live_156 2 rfl rfl ?_
                refine xr_iload C dX6_live_157 0 rfl ?_
                obtain ⟨hh55, ee54, hf⟩ := bV_some hf
                refine xr_callVv C (Cn := RX6) 0 (by decide) rfl rfl [.int v35, .int rr50] [] (c_X6_instruct l dC dI cI cZ a hD hh53 v35 rr50 ee54) (cwV 2 C.2.2.1 gX6_live_X6_instruct rfl rfl rfl (by decide +kernel) ⟨Nat.le_of_ble_eq_true rfl, Nat.le_of_ble_eq_true rfl⟩) rfl rfl (Nat.le_of_ble_eq_true rfl) dX6_live_159 ?_
                exact xr_sub C [4] rfl (lab162 hh55   hf)
              · rw [if_neg cd48] at hf
                refine xr_iconst C (v := 0) dX6_live_100 (by decide +kernel) ?_
                cases hf
                exact xr_zret C hlk hr (by decide +kernel) dX6_live_101
          · rw [if_pos cd44] at hf
            refine xr_iconst C (v := 0) dX6_live_71 (by decide +kernel) ?_
            cases hf
            exact xr_zret C hlk hr (by decide +kernel) dX6_live_72
    · rw [if_neg cd33] at hf
      refine xr_iconst C (v := 1) dX6_live_14 (by decide +kernel) ?_
      refine xr_goto C 19 dX6_live_15 (by decide) ?_
      refine xr_istore_n C [(1, .int 1), (0, .ref (a 0))] dX6_live_19 rfl (by decide) rfl ?_
      refine xr_aload_n C dX6_live_20 1 rfl rfl ?_
      refine xr_get C (ci := 6) (Cn := RX6) (T := TX6) (N := 23) (v := .ref (a 2)) 0 (by decide) rfl rfl 2 (by decide) wnX6 wl13 rfl rfl dX6_live_21 ?_
      refine xr_aload_n C dX6_live_24 1 rfl rfl ?_
      refine xr_get C (ci := 6) (Cn := RX6) (T := TX6) (N := 23) (v := .int (h 0 4)) 0 (by decide) rfl rfl 4 (by decide) wnX6 wl53 rfl rfl dX6_live_25 ?_
      obtain ⟨gg56, hf⟩ := gd_some hf
      refine xr_iald C (v := h 2 (h 0 4).toNatClampNeg) 2 (by decide) 0 rfl rfl gg56 rfl dX6_live_28 ?_
      refine xr_topi C (fun v57 ev57 => ?_)
      have hf := gl_at hf v57 ev57
      refine xr_istore_n C [(2, .int v57), (1, .int 1), (0, .ref (a 0))] dX6_live_29 rfl (by decide) rfl ?_
      refine xr_iload_n C dX6_live_30 1 rfl rfl ?_
      refine xr_if_ne C 47 dX6_live_31 (by decide) (fun c9 => ?_) (fun c9 => absurd c9 (by decide))
      refine xr_iconst C (v := 0) dX6_live_47 (by decide +kernel) ?_
      refine xr_istore_n C [(3, .int 0), (2, .int v57), (1, .int 1), (0, .ref (a 0))] dX6_live_48 rfl (by decide) rfl ?_
      refine xr_iload_n C dX6_live_49 2 rfl rfl ?_
      refine xr_if_ne C 60 dX6_live_50 (by decide) (fun c9 => ?_) (fun c9 => absurd c9 (by decide))
      refine xr_iload_n C dX6_live_60 0 rfl rfl ?_
      refine xr_if_eq C 73 dX6_live_61 (by decide) (fun c9 => ?_) (fun c9 => absurd c9 (by decide))
      refine xr_iload_n C dX6_live_73 2 rfl rfl ?_
      refine xr_if_ne C 81 dX6_live_74 (by decide) (fun c9 => ?_) (fun c9 => absurd c9 (by decide))
      refine xr_aload_n C dX6_live_81 3 rfl rfl ?_
      refine xr_get C (ci := 6) (Cn := RX6) (T := TX6) (N := 23) (v := .int (h 0 15)) 0 (by decide) rfl rfl 15 (by decide) wnX6 wl74 rfl rfl dX6_live_82 ?_
      refine xr_sipush C (v := 300) dX6_live_85 (by decide +kernel) ?_
      refine xr_icmp_eq C 100 dX6_live_88 (by decide) (fun cd58 => ?_) (fun cd58 => ?_)
      · rw [if_pos cd58] at hf
        refine xr_iconst C (v := 0) dX6_live_100 (by decide +kernel) ?_
        cases hf
        exact xr_zret C hlk hr (by decide +kernel) dX6_live_101
      · rw [if_neg cd58] at hf
        refine xr_aload_n C dX6_live_91 3 rfl rfl ?_
        refine xr_iload_n C dX6_live_92 2 rfl rfl ?_
        refine xr_iload_n C dX6_live_93 1 rfl rfl ?_
        obtain ⟨rr60, ee59, hf⟩ := bR_some hf
        refine xr_callVi C (Cn := RX6) 0 (by decide) rfl rfl [.int 1, .int v57] [] (c_X6_isFull l dC dI cI cZ a hD h 1 v57 ee59) (cwV 2 C.2.2.1 gX6_live_X6_isFull rfl rfl rfl (by decide +kernel) ⟨Nat.le_of_ble_eq_true rfl, Nat.le_of_ble_eq_true rfl⟩) rfl rfl (Nat.le_of_ble_eq_true rfl) dX6_live_94 ?_
        refine xr_if_eq C 102 dX6_live_97 (by decide) (fun cd61 => ?_) (fun cd61 => ?_)
        · rw [if_pos cd61] at hf
          refine xr_iload_n C dX6_live_102 0 rfl rfl ?_
          refine xr_if_eq C 113 dX6_live_103 (by decide) (fun c9 => ?_) (fun c9 => absurd c9 (by decide))
          refine xr_iconst C (v := 0) dX6_live_113 (by decide +kernel) ?_
          refine xr_istore C [(4, .int 0), (3, .int 0), (2, .int v57), (1, .int 1), (0, .ref (a 0))] dX6_live_114 (by decide) rfl ?_
          refine xr_iload_n C dX6_live_116 3 rfl rfl ?_
          refine xr_if_ne C 124 dX6_live_117 (by decide) (fun c9 => ?_) (fun c9 => absurd c9 (by decide))
          refine xr_aload_n C dX6_live_124 4 rfl rfl ?_
          refine xr_iload_n C dX6_live_125 3 rfl rfl ?_
          refine xr_if_eq C 133 dX6_live_126 (by decide) (fun c9 => absurd c9 (by decide)) (fun c9 => ?_)
          refine xr_iconst C (v := 2) dX6_live_129 (by decide +kernel) ?_
          refine xr_goto C 134 dX6_live_130 (by decide) ?_
          refine xr_iload C dX6_live_134 0 rfl ?_
          obtain ⟨hh63, ee62, hf⟩ := bV_some hf
          refine xr_callVv C (Cn := RX6) 0 (by decide) rfl rfl [.int 2, .int 0] [] (c_X6_note l dC dI cI cZ a hD h 2 0 ee62) (cwV 2 C.2.2.1 gX6_live_X6_note rfl rfl rfl (by decide +kernel) ⟨Nat.le_of_ble_eq_true rfl, Nat.le_of_ble_eq_true rfl⟩) rfl rfl (Nat.le_of_ble_eq_true rfl) dX6_live_136 ?_
          refine xr_iload_n C dX6_live_139 3 rfl rfl ?_
          refine xr_if_eq C 155 dX6_live_140 (by decide) (fun c9 => absurd c9 (by decide)) (fun c9 => ?_)
          refine xr_aload_n C dX6_live_143 4 rfl rfl ?_
          refine xr_iconst C (v := 0) dX6_live_144 (by decide +kernel) ?_
          refine xr_put C (ci := 6) (Cn := RX6) (T := TX6) (N := 23) (ty := .boolean) (v := 0) 0 (by decide) rfl rfl 22 (by decide) wnX6 wl83 rfl tyX6 tyX6_ok nmX6 rfl (by decide +kernel) (by decide +kernel) (by decide +kernel) (Nat.le_of_ble_eq_true rfl) rfl dX6_live_145 ?_
          refine xr_aload_n C dX6_live_148 4 rfl rfl ?_
          obtain ⟨hh65, ee64, hf⟩ := bV_some hf
          refine xr_callVv C (Cn := RX6) 0 (by decide) rfl rfl [] [] (c_X6_interrupt l dC dI cI cZ a hD (u2 hh63 0 22 0) ee64) (cwV 0 C.2.2.1 gX6_live_X6_interrupt rfl rfl rfl (by decide +kernel) ⟨Nat.le_of_ble_eq_true rfl, Nat.le_of_ble_eq_true rfl⟩) rfl rfl (Nat.le_of_ble_eq_true rfl) dX6_live_149 ?_
          refine xr_goto C 162 dX6_live_152 (by decide) ?_
          exact xr_sub C [4] rfl (lab162 hh65   hf)
        · rw [if_neg cd61] at hf
          refine xr_iconst C (v := 0) dX6_live_100 (by decide +kernel) ?_
          cases hf
          exact xr_zret C hlk hr (by decide +kernel) dX6_live_101
def f_X6_step_29 : Nat → hp → Int32 → Int32 → Int32 → Int32 → Option (Int32 × hp)
  | 0, _, _, _, _, _ => none
  | n + 1, h, x1, x2, x3, x4 => if x4 = 0 then (some (x3, h)) else (if x2 ≤ x3 then (some (x3, h)) else (if h 0 11 ≤ h 0 10 then (bM (f_X6_live h) (fun rr7 hh8 => if rr7 = 0 then (gl (x3 + 0) (fun v10 => f_X6_step_29 n hh8 x1 x2 v10 rr7)) else (gl (x3 + 1) (fun v11 => f_X6_step_29 n hh8 x1 x2 v11 rr7)))) else (bV (f_X6_again h) (fun hh13 => gl (x3 + 1) (fun v14 => f_X6_step_29 n hh13 x1 x2 v14 x4)))))
def f_X6_step (h : hp) (x1 : Int32) : Option (Int32 × hp) := if h 0 9 = 0 then (some ((-1), h)) else (if x1 ≤ 10000 then (f_X6_step_29 20000 h x1 x1 0 1) else (f_X6_step_29 20000 h x1 10000 0 1))
abbrev rmX6_step : Room := { frames := 4, cells := 0, slots := 0, locals := 93 }
set_option maxHeartbeats 4000000 in
set_option maxRecDepth 100000 in
theorem c_X6_step (l : Launch) (dC : Nat → ClassId) (dI : Nat → Nat → Nat) (cI cZ : ClassId) (a : Nat → Nat) (hD : xD 11 a) (h : hp) (x1 : Int32) {r9 : Int32} {h9 : hp} (hf : f_X6_step h x1 = some (r9, h9)) : XMi l yX6_step wsX6_step rmX6_step (dC, dI) vwCl (mty cI cZ) 11 a (mcf cI cZ a) h [.ref (a 0), .int x1] r9 h9 := by
  refine xm_i (cc := cX6_step) (maxL := 5) (ws' := wsX6_step.tail) (by decide) rfl hD (Nat.le_of_ble_eq_true rfl) [(0, .ref (a 0)), (1, .int x1)] rfl RX6 rfl ?_
  intro p e s m args below meth c C hlk hr
  have wl45 : Cond.fieldLink RX6 45 "RewindBoxModel" "records" "Z" ∈ wsX6_step := by decide +kernel
  have wnX6 : ∀ w ∈ u_ws RX6 TX6 23, w ∈ wsX6_step := by decide +kernel
  have wl65 : Cond.fieldLink RX6 65 "RewindBoxModel" "position" "I" ∈ wsX6_step := by decide +kernel
  have wl71 : Cond.fieldLink RX6 71 "RewindBoxModel" "end" "I" ∈ wsX6_step := by decide +kernel
  have lab29 : ∀ (n : Nat) (h : hp) (x1 : Int32) (x2 : Int32) (x3 : Int32) (x4 : Int32) , f_X6_step_29 n h x1 x2 x3 x4 = some (r9, h9) → XJ p l e rmX6_step s m args below meth c (dC, dI) vwCl 11 a (mcf cI cZ a) 5 (MQ below (XQi (dC, dI) vwCl 11 a (mcf cI cZ a) r9 h9) args s 0 0 (xA 11 a)) h [(0, .ref (a 0)), (1, .int x1), (2, .int x2), (3, .int x3), (4, .int x4)] [] 29 := by
    intro n
    induction n with
    | zero => intro h x1 x2 x3 x4  hf; simp [f_X6_step_29] at hf
    | succ n ih =>
      intro h x1 x2 x3 x4  hf
      rw [f_X6_step_29] at hf
      refine xr_iload C dX6_step_29 4 rfl ?_
      refine xr_if_eq C 79 dX6_step_31 (by decide) (fun cd3 => ?_) (fun cd3 => ?_)
      · rw [if_pos cd3] at hf
        refine xr_iload_n C dX6_step_79 3 rfl rfl ?_
        cases hf
        exact xr_iret C hlk hr dX6_step_80
      · rw [if_neg cd3] at hf
        refine xr_iload_n C dX6_step_34 3 rfl rfl ?_
        refine xr_iload_n C dX6_step_35 2 rfl rfl ?_
        refine xr_icmp_ge C 79 dX6_step_36 (by decide) (fun cd4 => ?_) (fun cd4 => ?_)
        · rw [if_pos cd4] at hf
          refine xr_iload_n C dX6_step_79 3 rfl rfl ?_
          cases hf
          exact xr_iret C hlk hr dX6_step_80
        · rw [if_neg cd4] at hf
          refine xr_aload_n C dX6_step_39 0 rfl rfl ?_
          refine xr_get C (ci := 6) (Cn := RX6) (T := TX6) (N := 23) (v := .int (h 0 10)) 0 (by decide) rfl rfl 10 (by decide) wnX6 wl65 rfl rfl dX6_step_40 ?_
          refine xr_aload_n C dX6_step_43 0 rfl rfl ?_
          refine xr_get C (ci := 6) (Cn := RX6) (T := TX6) (N := 23) (v := .int (h 0 11)) 0 (by decide) rfl rfl 11 (by decide) wnX6 wl71 rfl rfl dX6_step_44 ?_
          refine xr_icmp_ge C 57 dX6_step_47 (by decide) (fun cd5 => ?_) (fun cd5 => ?_)
          · rw [if_pos cd5] at hf
            refine xr_aload_n C dX6_step_57 0 rfl rfl ?_
            obtain ⟨rr7, hh8, ee6, hf⟩ := bM_some hf
            refine xr_callVi C (Cn := RX6) 0 (by decide) rfl rfl [] [] (c_X6_live l dC dI cI cZ a hD h ee6) (cwV 0 C.2.2.1 gX6_step_X6_live rfl rfl rfl (by decide +kernel) ⟨Nat.le_of_ble_eq_true rfl, Nat.le_of_ble_eq_true rfl⟩) rfl rfl (Nat.le_of_ble_eq_true rfl) dX6_step_58 ?_
            refine xr_istore C [(4, .int rr7), (0, .ref (a 0)), (1, .int x1), (2, .int x2), (3, .int x3)] dX6_step_61 (by decide) rfl ?_
            refine xr_iload_n C dX6_step_63 4 rfl rfl ?_
            refine xr_iload C dX6_step_64 0 rfl ?_
            refine xr_if_eq C 73 dX6_step_66 (by decide) (fun cd9 => ?_) (fun cd9 => ?_)
            · rw [if_pos cd9] at hf
              refine xr_iconst C (v := 0) dX6_step_73 (by decide +kernel) ?_
              refine xr_iadd C dX6_step_74 ?_
              refine xr_topi C (fun v10 ev10 => ?_)
              have hf := gl_at hf v10 ev10
              refine xr_istore_n C [(3, .int v10), (4, .int rr7), (0, .ref (a 0)), (1, .int x1), (2, .int x2)] dX6_step_75 rfl (by decide) rfl ?_
              refine xr_goto C 29 dX6_step_76 (by decide) ?_
              exact xr_sub C [2, 3, 4, 0, 1] rfl (ih hh8 x1 x2 v10 rr7  hf)
            · rw [if_neg cd9] at hf
              refine xr_iconst C (v := 1) dX6_step_69 (by decide +kernel) ?_
              refine xr_goto C 74 dX6_step_70 (by decide) ?_
              refine xr_iadd C dX6_step_74 ?_
              refine xr_topi C (fun v11 ev11 => ?_)
              have hf := gl_at hf v11 ev11
              refine xr_istore_n C [(3, .int v11), (4, .int rr7), (0, .ref (a 0)), (1, .int x1), (2, .int x2)] dX6_step_75 rfl (by decide) rfl ?_
              refine xr_goto C 29 dX6_step_76 (by decide) ?_
              exact xr_sub C [2, 3, 4, 0, 1] rfl (ih hh8 x1 x2 v11 rr7  hf)
          · rw [if_neg cd5] at hf
            refine xr_aload_n C dX6_step_50 0 rfl rfl ?_
            obtain ⟨hh13, ee12, hf⟩ := bV_some hf
            refine xr_callVv C (Cn := RX6) 0 (by decide) rfl rfl [] [] (c_X6_again l dC dI cI cZ a hD h ee12) (cwV 0 C.2.2.1 gX6_step_X6_again rfl rfl rfl (by decide +kernel) ⟨Nat.le_of_ble_eq_true rfl, Nat.le_of_ble_eq_true rfl⟩) rfl rfl (Nat.le_of_ble_eq_true rfl) dX6_step_51 ?_
            refine xr_goto C 63 dX6_step_54 (by decide) ?_
            refine xr_iload_n C dX6_step_63 3 rfl rfl ?_
            refine xr_iload C dX6_step_64 4 rfl ?_
            refine xr_if_eq C 73 dX6_step_66 (by decide) (fun c9 => absurd c9 cd3) (fun c9 => ?_)
            refine xr_iconst C (v := 1) dX6_step_69 (by decide +kernel) ?_
            refine xr_goto C 74 dX6_step_70 (by decide) ?_
            refine xr_iadd C dX6_step_74 ?_
            refine xr_topi C (fun v14 ev14 => ?_)
            have hf := gl_at hf v14 ev14
            refine xr_istore_n C [(3, .int v14), (0, .ref (a 0)), (1, .int x1), (2, .int x2), (4, .int x4)] dX6_step_75 rfl (by decide) rfl ?_
            refine xr_goto C 29 dX6_step_76 (by decide) ?_
            exact xr_sub C [1, 2, 3, 0, 4] rfl (ih hh13 x1 x2 v14 x4  hf)
  unfold f_X6_step at hf
  refine xr_aload_n C dX6_step_0 0 rfl rfl ?_
  refine xr_get C (ci := 6) (Cn := RX6) (T := TX6) (N := 23) (v := .int (h 0 9)) 0 (by decide) rfl rfl 9 (by decide) wnX6 wl45 rfl rfl dX6_step_1 ?_
  refine xr_if_ne C 9 dX6_step_4 (by decide) (fun cd1 => ?_) (fun cd1 => ?_)
  · rw [if_neg cd1] at hf
    refine xr_iload_n C dX6_step_9 1 rfl rfl ?_
    refine xr_sipush C (v := 10000) dX6_step_10 (by decide +kernel) ?_
    refine xr_icmp_le C 22 dX6_step_13 (by decide) (fun cd2 => ?_) (fun cd2 => ?_)
    · rw [if_pos cd2] at hf
      refine xr_iload_n C dX6_step_22 1 rfl rfl ?_
      refine xr_istore_n C [(2, .int x1), (0, .ref (a 0)), (1, .int x1)] dX6_step_23 rfl (by decide) rfl ?_
      refine xr_iconst C (v := 0) dX6_step_24 (by decide +kernel) ?_
      refine xr_istore_n C [(3, .int 0), (2, .int x1), (0, .ref (a 0)), (1, .int x1)] dX6_step_25 rfl (by decide) rfl ?_
      refine xr_iconst C (v := 1) dX6_step_26 (by decide +kernel) ?_
      refine xr_istore C [(4, .int 1), (3, .int 0), (2, .int x1), (0, .ref (a 0)), (1, .int x1)] dX6_step_27 (by decide) rfl ?_
      exact xr_sub C [3, 4, 2, 1, 0] rfl (lab29 20000 h x1 x1 0 1  hf)
    · rw [if_neg cd2] at hf
      refine xr_sipush C (v := 10000) dX6_step_16 (by decide +kernel) ?_
      refine xr_goto C 23 dX6_step_19 (by decide) ?_
      refine xr_istore_n C [(2, .int 10000), (0, .ref (a 0)), (1, .int x1)] dX6_step_23 rfl (by decide) rfl ?_
      refine xr_iconst C (v := 0) dX6_step_24 (by decide +kernel) ?_
      refine xr_istore_n C [(3, .int 0), (2, .int 10000), (0, .ref (a 0)), (1, .int x1)] dX6_step_25 rfl (by decide) rfl ?_
      refine xr_iconst C (v := 1) dX6_step_26 (by decide +kernel) ?_
      refine xr_istore C [(4, .int 1), (3, .int 0), (2, .int 10000), (0, .ref (a 0)), (1, .int x1)] dX6_step_27 (by decide) rfl ?_
      exact xr_sub C [3, 4, 2, 1, 0] rfl (lab29 20000 h x1 10000 0 1  hf)
  · rw [if_pos cd1] at hf
    refine xr_iconst C (v := (-1)) dX6_step_7 (by decide +kernel) ?_
    cases hf
    exact xr_iret C hlk hr dX6_step_8
def f_X6_isThere (h0 : hp) (x1 : Int32) : Option Int32 := if h0 0 9 = 0 then (some 0) else (if x1 < 0 then (some 0) else (if h0 0 11 < x1 then (some 0) else (some 1)))
abbrev rmX6_isThere : Room := { frames := 0, cells := 0, slots := 0, locals := 0 }
set_option maxHeartbeats 4000000 in
set_option maxRecDepth 100000 in
theorem c_X6_isThere (l : Launch) (dC : Nat → ClassId) (dI : Nat → Nat → Nat) (cI cZ : ClassId) (a : Nat → Nat) (hD : xD 11 a) (h0 : hp) (x1 : Int32) {r9 : Int32} (hf : f_X6_isThere h0 x1 = some r9) : XMi l yX6_isThere wsX6_isThere rmX6_isThere (dC, dI) vwCl (mty cI cZ) 11 a (mcf cI cZ a) h0 [.ref (a 0), .int x1] r9 h0 := by
  refine xm_i (cc := cX6_isThere) (maxL := 2) (ws' := wsX6_isThere.tail) (by decide) rfl hD (Nat.le_of_ble_eq_true rfl) [(0, .ref (a 0)), (1, .int x1)] rfl RX6 rfl ?_
  intro p e s m args below meth c C hlk hr
  have wl45 : Cond.fieldLink RX6 45 "RewindBoxModel" "records" "Z" ∈ wsX6_isThere := by decide +kernel
  have wnX6 : ∀ w ∈ u_ws RX6 TX6 23, w ∈ wsX6_isThere := by decide +kernel
  have wl71 : Cond.fieldLink RX6 71 "RewindBoxModel" "end" "I" ∈ wsX6_isThere := by decide +kernel
  unfold f_X6_isThere at hf
  refine xr_aload_n C dX6_isThere_0 0 rfl rfl ?_
  refine xr_get C (ci := 6) (Cn := RX6) (T := TX6) (N := 23) (v := .int (h0 0 9)) 0 (by decide) rfl rfl 9 (by decide) wnX6 wl45 rfl rfl dX6_isThere_1 ?_
  refine xr_if_eq C 23 dX6_isThere_4 (by decide) (fun cd1 => ?_) (fun cd1 => ?_)
  · rw [if_pos cd1] at hf
    refine xr_iconst C (v := 0) dX6_isThere_23 (by decide +kernel) ?_
    cases hf
    exact xr_zret C hlk hr (by decide +kernel) dX6_isThere_24
  · rw [if_neg cd1] at hf
    refine xr_iload_n C dX6_isThere_7 1 rfl rfl ?_
    refine xr_if_lt C 23 dX6_isThere_8 (by decide) (fun cd2 => ?_) (fun cd2 => ?_)
    · rw [if_pos cd2] at hf
      refine xr_iconst C (v := 0) dX6_isThere_23 (by decide +kernel) ?_
      cases hf
      exact xr_zret C hlk hr (by decide +kernel) dX6_isThere_24
    · rw [if_neg cd2] at hf
      refine xr_iload_n C dX6_isThere_11 1 rfl rfl ?_
      refine xr_aload_n C dX6_isThere_12 0 rfl rfl ?_
      refine xr_get C (ci := 6) (Cn := RX6) (T := TX6) (N := 23) (v := .int (h0 0 11)) 0 (by decide) rfl rfl 11 (by decide) wnX6 wl71 rfl rfl dX6_isThere_13 ?_
      refine xr_icmp_gt C 23 dX6_isThere_16 (by decide) (fun cd3 => ?_) (fun cd3 => ?_)
      · rw [if_pos cd3] at hf
        refine xr_iconst C (v := 0) dX6_isThere_23 (by decide +kernel) ?_
        cases hf
        exact xr_zret C hlk hr (by decide +kernel) dX6_isThere_24
      · rw [if_neg cd3] at hf
        refine xr_iconst C (v := 1) dX6_isThere_19 (by decide +kernel) ?_
        refine xr_goto C 24 dX6_isThere_20 (by decide) ?_
        cases hf
        exact xr_zret C hlk hr (by decide +kernel) dX6_isThere_24
def f_X6_go_14 : Nat → hp → Int32 → Option (Int32 × hp)
  | 0, _, _ => none
  | n + 1, h, x1 => if x1 ≤ h 0 10 then (some (1, h)) else (bV (f_X6_again h) (fun hh8 => f_X6_go_14 n hh8 x1))
def f_X6_go (h : hp) (x1 : Int32) : Option (Int32 × hp) := bR (f_X6_isThere h x1) (fun rr2 => if rr2 = 0 then (some (0, h)) else (bV (f_X6_rewind h) (fun hh5 => f_X6_go_14 20000 hh5 x1)))
abbrev rmX6_go : Room := { frames := 4, cells := 0, slots := 0, locals := 91 }
set_option maxHeartbeats 4000000 in
set_option maxRecDepth 100000 in
theorem c_X6_go (l : Launch) (dC : Nat → ClassId) (dI : Nat → Nat → Nat) (cI cZ : ClassId) (a : Nat → Nat) (hD : xD 11 a) (h : hp) (x1 : Int32) {r9 : Int32} {h9 : hp} (hf : f_X6_go h x1 = some (r9, h9)) : XMi l yX6_go wsX6_go rmX6_go (dC, dI) vwCl (mty cI cZ) 11 a (mcf cI cZ a) h [.ref (a 0), .int x1] r9 h9 := by
  refine xm_i (cc := cX6_go) (maxL := 2) (ws' := wsX6_go.tail) (by decide) rfl hD (Nat.le_of_ble_eq_true rfl) [(0, .ref (a 0)), (1, .int x1)] rfl RX6 rfl ?_
  intro p e s m args below meth c C hlk hr
  have wl65 : Cond.fieldLink RX6 65 "RewindBoxModel" "position" "I" ∈ wsX6_go := by decide +kernel
  have wnX6 : ∀ w ∈ u_ws RX6 TX6 23, w ∈ wsX6_go := by decide +kernel
  have lab14 : ∀ (n : Nat) (h : hp) (x1 : Int32) , f_X6_go_14 n h x1 = some (r9, h9) → XJ p l e rmX6_go s m args below meth c (dC, dI) vwCl 11 a (mcf cI cZ a) 2 (MQ below (XQi (dC, dI) vwCl 11 a (mcf cI cZ a) r9 h9) args s 0 0 (xA 11 a)) h [(0, .ref (a 0)), (1, .int x1)] [] 14 := by
    intro n
    induction n with
    | zero => intro h x1  hf; simp [f_X6_go_14] at hf
    | succ n ih =>
      intro h x1  hf
      rw [f_X6_go_14] at hf
      refine xr_aload_n C dX6_go_14 0 rfl rfl ?_
      refine xr_get C (ci := 6) (Cn := RX6) (T := TX6) (N := 23) (v := .int (h 0 10)) 0 (by decide) rfl rfl 10 (by decide) wnX6 wl65 rfl rfl dX6_go_15 ?_
      refine xr_iload_n C dX6_go_18 1 rfl rfl ?_
      refine xr_icmp_ge C 29 dX6_go_19 (by decide) (fun cd6 => ?_) (fun cd6 => ?_)
      · rw [if_pos cd6] at hf
        refine xr_iconst C (v := 1) dX6_go_29 (by decide +kernel) ?_
        cases hf
        exact xr_zret C hlk hr (by decide +kernel) dX6_go_30
      · rw [if_neg cd6] at hf
        refine xr_aload_n C dX6_go_22 0 rfl rfl ?_
        obtain ⟨hh8, ee7, hf⟩ := bV_some hf
        refine xr_callVv C (Cn := RX6) 0 (by decide) rfl rfl [] [] (c_X6_again l dC dI cI cZ a hD h ee7) (cwV 0 C.2.2.1 gX6_go_X6_again rfl rfl rfl (by decide +kernel) ⟨Nat.le_of_ble_eq_true rfl, Nat.le_of_ble_eq_true rfl⟩) rfl rfl (Nat.le_of_ble_eq_true rfl) dX6_go_23 ?_
        refine xr_goto C 14 dX6_go_26 (by decide) ?_
        exact xr_sub C [0, 1] rfl (ih hh8 x1  hf)
  unfold f_X6_go at hf
  refine xr_aload_n C dX6_go_0 0 rfl rfl ?_
  refine xr_iload_n C dX6_go_1 1 rfl rfl ?_
  obtain ⟨rr2, ee1, hf⟩ := bR_some hf
  refine xr_callVi C (Cn := RX6) 0 (by decide) rfl rfl [.int x1] [] (c_X6_isThere l dC dI cI cZ a hD h x1 ee1) (cwV 1 C.2.2.1 gX6_go_X6_isThere rfl rfl rfl (by decide +kernel) ⟨Nat.le_of_ble_eq_true rfl, Nat.le_of_ble_eq_true rfl⟩) rfl rfl (Nat.le_of_ble_eq_true rfl) dX6_go_2 ?_
  refine xr_if_ne C 10 dX6_go_5 (by decide) (fun cd3 => ?_) (fun cd3 => ?_)
  · rw [if_neg cd3] at hf
    refine xr_aload_n C dX6_go_10 0 rfl rfl ?_
    obtain ⟨hh5, ee4, hf⟩ := bV_some hf
    refine xr_callVv C (Cn := RX6) 0 (by decide) rfl rfl [] [] (c_X6_rewind l dC dI cI cZ a hD h ee4) (cwV 0 C.2.2.1 gX6_go_X6_rewind rfl rfl rfl (by decide +kernel) ⟨Nat.le_of_ble_eq_true rfl, Nat.le_of_ble_eq_true rfl⟩) rfl rfl (Nat.le_of_ble_eq_true rfl) dX6_go_11 ?_
    exact xr_sub C [0, 1] rfl (lab14 20000 hh5 x1  hf)
  · rw [if_pos cd3] at hf
    refine xr_iconst C (v := 0) dX6_go_8 (by decide +kernel) ?_
    cases hf
    exact xr_zret C hlk hr (by decide +kernel) dX6_go_9
end
section
def f_X6_far (h0 : hp) (x1 : Int32) : Option Int32 := bR (f_X6_isThere h0 x1) (fun rr2 => if rr2 = 0 then (some (-1)) else (gd (¬ (h0 0 0) = 0) (some (x1 - x1 / (h0 0 0) * (h0 0 0)))))
abbrev rmX6_far : Room := { frames := 1, cells := 0, slots := 0, locals := 21 }
set_option maxHeartbeats 4000000 in
set_option maxRecDepth 100000 in
theorem c_X6_far (l : Launch) (dC : Nat → ClassId) (dI : Nat → Nat → Nat) (cI cZ : ClassId) (a : Nat → Nat) (hD : xD 11 a) (h0 : hp) (x1 : Int32) {r9 : Int32} (hf : f_X6_far h0 x1 = some r9) : XMi l yX6_far wsX6_far rmX6_far (dC, dI) vwCl (mty cI cZ) 11 a (mcf cI cZ a) h0 [.ref (a 0), .int x1] r9 h0 := by
  refine xm_i (cc := cX6_far) (maxL := 2) (ws' := wsX6_far.tail) (by decide) rfl hD (Nat.le_of_ble_eq_true rfl) [(0, .ref (a 0)), (1, .int x1)] rfl RX6 rfl ?_
  intro p e s m args below meth c C hlk hr
  have wl41 : Cond.fieldLink RX6 41 "RewindBoxModel" "interval" "I" ∈ wsX6_far := by decide +kernel
  have wnX6 : ∀ w ∈ u_ws RX6 TX6 23, w ∈ wsX6_far := by decide +kernel
  unfold f_X6_far at hf
  refine xr_aload_n C dX6_far_0 0 rfl rfl ?_
  refine xr_iload_n C dX6_far_1 1 rfl rfl ?_
  obtain ⟨rr2, ee1, hf⟩ := bR_some hf
  refine xr_callVi C (Cn := RX6) 0 (by decide) rfl rfl [.int x1] [] (c_X6_isThere l dC dI cI cZ a hD h0 x1 ee1) (cwV 1 C.2.2.1 gX6_far_X6_isThere rfl rfl rfl (by decide +kernel) ⟨Nat.le_of_ble_eq_true rfl, Nat.le_of_ble_eq_true rfl⟩) rfl rfl (Nat.le_of_ble_eq_true rfl) dX6_far_2 ?_
  refine xr_if_eq C 17 dX6_far_5 (by decide) (fun cd3 => ?_) (fun cd3 => ?_)
  · rw [if_pos cd3] at hf
    refine xr_iconst C (v := (-1)) dX6_far_17 (by decide +kernel) ?_
    cases hf
    exact xr_iret C hlk hr dX6_far_18
  · rw [if_neg cd3] at hf
    refine xr_iload_n C dX6_far_8 1 rfl rfl ?_
    refine xr_aload_n C dX6_far_9 0 rfl rfl ?_
    refine xr_get C (ci := 6) (Cn := RX6) (T := TX6) (N := 23) (v := .int (h0 0 0)) 0 (by decide) rfl rfl 0 (by decide) wnX6 wl41 rfl rfl dX6_far_10 ?_
    obtain ⟨gg4, hf⟩ := gd_some hf
    refine xr_irem C dX6_far_13 gg4 ?_
    refine xr_goto C 18 dX6_far_14 (by decide) ?_
    cases hf
    exact xr_iret C hlk hr dX6_far_18
def f_X6_cut (h : hp)  : Option (Int32 × hp) := if h 0 9 = 0 then (some ((-1), h)) else (gd (¬ (h 0 0) = 0) (some (h 0 16, (u2 (u2 (u2 h 0 11 (h 0 10)) 0 15 (h 0 16)) 0 17 (((h 0 10) / (h 0 0)) + 1)))))
abbrev rmX6_cut : Room := { frames := 0, cells := 0, slots := 0, locals := 0 }
set_option maxHeartbeats 4000000 in
set_option maxRecDepth 100000 in
theorem c_X6_cut (l : Launch) (dC : Nat → ClassId) (dI : Nat → Nat → Nat) (cI cZ : ClassId) (a : Nat → Nat) (hD : xD 11 a) (h : hp)  {r9 : Int32} {h9 : hp} (hf : f_X6_cut h  = some (r9, h9)) : XMi l yX6_cut wsX6_cut rmX6_cut (dC, dI) vwCl (mty cI cZ) 11 a (mcf cI cZ a) h [.ref (a 0)] r9 h9 := by
  refine xm_i (cc := cX6_cut) (maxL := 1) (ws' := wsX6_cut.tail) (by decide) rfl hD (Nat.le_of_ble_eq_true rfl) [(0, .ref (a 0))] rfl RX6 rfl ?_
  intro p e s m args below meth c C hlk hr
  have wl45 : Cond.fieldLink RX6 45 "RewindBoxModel" "records" "Z" ∈ wsX6_cut := by decide +kernel
  have wnX6 : ∀ w ∈ u_ws RX6 TX6 23, w ∈ wsX6_cut := by decide +kernel
  have wl65 : Cond.fieldLink RX6 65 "RewindBoxModel" "position" "I" ∈ wsX6_cut := by decide +kernel
  have wl71 : Cond.fieldLink RX6 71 "RewindBoxModel" "end" "I" ∈ wsX6_cut := by decide +kernel
  have wl68 : Cond.fieldLink RX6 68 "RewindBoxModel" "passed" "I" ∈ wsX6_cut := by decide +kernel
  have wl74 : Cond.fieldLink RX6 74 "RewindBoxModel" "entries" "I" ∈ wsX6_cut := by decide +kernel
  have wl41 : Cond.fieldLink RX6 41 "RewindBoxModel" "interval" "I" ∈ wsX6_cut := by decide +kernel
  have wl77 : Cond.fieldLink RX6 77 "RewindBoxModel" "snapshots" "I" ∈ wsX6_cut := by decide +kernel
  unfold f_X6_cut at hf
  refine xr_aload_n C dX6_cut_0 0 rfl rfl ?_
  refine xr_get C (ci := 6) (Cn := RX6) (T := TX6) (N := 23) (v := .int (h 0 9)) 0 (by decide) rfl rfl 9 (by decide) wnX6 wl45 rfl rfl dX6_cut_1 ?_
  refine xr_if_ne C 9 dX6_cut_4 (by decide) (fun cd1 => ?_) (fun cd1 => ?_)
  · rw [if_neg cd1] at hf
    refine xr_aload_n C dX6_cut_9 0 rfl rfl ?_
    refine xr_aload_n C dX6_cut_10 0 rfl rfl ?_
    refine xr_get C (ci := 6) (Cn := RX6) (T := TX6) (N := 23) (v := .int (h 0 10)) 0 (by decide) rfl rfl 10 (by decide) wnX6 wl65 rfl rfl dX6_cut_11 ?_
    refine xr_put C (ci := 6) (Cn := RX6) (T := TX6) (N := 23) (ty := .int) (v := h 0 10) 0 (by decide) rfl rfl 11 (by decide) wnX6 wl71 rfl tyX6 tyX6_ok nmX6 rfl (by decide +kernel) rfl rfl (Nat.le_of_ble_eq_true rfl) rfl dX6_cut_14 ?_
    refine xr_aload_n C dX6_cut_17 0 rfl rfl ?_
    refine xr_aload_n C dX6_cut_18 0 rfl rfl ?_
    refine xr_get C (ci := 6) (Cn := RX6) (T := TX6) (N := 23) (v := .int (h 0 16)) 0 (by decide) rfl rfl 16 (by decide) wnX6 wl68 rfl rfl dX6_cut_19 ?_
    refine xr_put C (ci := 6) (Cn := RX6) (T := TX6) (N := 23) (ty := .int) (v := h 0 16) 0 (by decide) rfl rfl 15 (by decide) wnX6 wl74 rfl tyX6 tyX6_ok nmX6 rfl (by decide +kernel) rfl rfl (Nat.le_of_ble_eq_true rfl) rfl dX6_cut_22 ?_
    refine xr_aload_n C dX6_cut_25 0 rfl rfl ?_
    refine xr_aload_n C dX6_cut_26 0 rfl rfl ?_
    refine xr_get C (ci := 6) (Cn := RX6) (T := TX6) (N := 23) (v := .int (h 0 10)) 0 (by decide) rfl rfl 10 (by decide) wnX6 wl65 rfl rfl dX6_cut_27 ?_
    refine xr_aload_n C dX6_cut_30 0 rfl rfl ?_
    refine xr_get C (ci := 6) (Cn := RX6) (T := TX6) (N := 23) (v := .int (h 0 0)) 0 (by decide) rfl rfl 0 (by decide) wnX6 wl41 rfl rfl dX6_cut_31 ?_
    obtain ⟨gg2, hf⟩ := gd_some hf
    refine xr_idiv C dX6_cut_34 gg2 ?_
    refine xr_iconst C (v := 1) dX6_cut_35 (by decide +kernel) ?_
    refine xr_iadd C dX6_cut_36 ?_
    refine xr_put C (ci := 6) (Cn := RX6) (T := TX6) (N := 23) (ty := .int) (v := (((h 0 10) / (h 0 0)) + 1)) 0 (by decide) rfl rfl 17 (by decide) wnX6 wl77 rfl tyX6 tyX6_ok nmX6 rfl (by decide +kernel) rfl rfl (Nat.le_of_ble_eq_true rfl) rfl dX6_cut_37 ?_
    refine xr_aload_n C dX6_cut_40 0 rfl rfl ?_
    refine xr_get C (ci := 6) (Cn := RX6) (T := TX6) (N := 23) (v := .int (h 0 16)) 0 (by decide) rfl rfl 15 (by decide) wnX6 wl74 rfl rfl dX6_cut_41 ?_
    cases hf
    exact xr_iret C hlk hr dX6_cut_44
  · rw [if_pos cd1] at hf
    refine xr_iconst C (v := (-1)) dX6_cut_7 (by decide +kernel) ?_
    cases hf
    exact xr_iret C hlk hr dX6_cut_8
def f_X6_record (h0 : hp) (x1 : Int32) : Option Int32 := if h0 0 9 = 0 then (some (-1)) else (if x1 = 0 then (some (h0 0 10)) else (if x1 = 1 then (some (h0 0 11)) else (if x1 = 2 then (some (h0 0 15)) else (if x1 = 3 then (some (h0 0 17)) else (if x1 = 4 then (bR (f_X6_allPages h0) (fun rr8 => some rr8)) else (if x1 = 5 then (some (h0 0 21)) else (if x1 = 6 then (if h0 0 22 = 0 then (some 0) else (some 1)) else (some (-1)))))))))
abbrev rmX6_record : Room := { frames := 1, cells := 0, slots := 0, locals := 22 }
set_option maxHeartbeats 4000000 in
set_option maxRecDepth 100000 in
theorem c_X6_record (l : Launch) (dC : Nat → ClassId) (dI : Nat → Nat → Nat) (cI cZ : ClassId) (a : Nat → Nat) (hD : xD 11 a) (h0 : hp) (x1 : Int32) {r9 : Int32} (hf : f_X6_record h0 x1 = some r9) : XMi l yX6_record wsX6_record rmX6_record (dC, dI) vwCl (mty cI cZ) 11 a (mcf cI cZ a) h0 [.ref (a 0), .int x1] r9 h0 := by
  refine xm_i (cc := cX6_record) (maxL := 2) (ws' := wsX6_record.tail) (by decide) rfl hD (Nat.le_of_ble_eq_true rfl) [(0, .ref (a 0)), (1, .int x1)] rfl RX6 rfl ?_
  intro p e s m args below meth c C hlk hr
  have wl45 : Cond.fieldLink RX6 45 "RewindBoxModel" "records" "Z" ∈ wsX6_record := by decide +kernel
  have wnX6 : ∀ w ∈ u_ws RX6 TX6 23, w ∈ wsX6_record := by decide +kernel
  have wl65 : Cond.fieldLink RX6 65 "RewindBoxModel" "position" "I" ∈ wsX6_record := by decide +kernel
  have wl71 : Cond.fieldLink RX6 71 "RewindBoxModel" "end" "I" ∈ wsX6_record := by decide +kernel
  have wl74 : Cond.fieldLink RX6 74 "RewindBoxModel" "entries" "I" ∈ wsX6_record := by decide +kernel
  have wl77 : Cond.fieldLink RX6 77 "RewindBoxModel" "snapshots" "I" ∈ wsX6_record := by decide +kernel
  have wl80 : Cond.fieldLink RX6 80 "RewindBoxModel" "waiting" "I" ∈ wsX6_record := by decide +kernel
  have wl83 : Cond.fieldLink RX6 83 "RewindBoxModel" "rang" "Z" ∈ wsX6_record := by decide +kernel
  unfold f_X6_record at hf
  refine xr_aload_n C dX6_record_0 0 rfl rfl ?_
  refine xr_get C (ci := 6) (Cn := RX6) (T := TX6) (N := 23) (v := .int (h0 0 9)) 0 (by decide) rfl rfl 9 (by decide) wnX6 wl45 rfl rfl dX6_record_1 ?_
  refine xr_if_ne C 9 dX6_record_4 (by decide) (fun cd1 => ?_) (fun cd1 => ?_)
  · rw [if_neg cd1] at hf
    refine xr_iload_n C dX6_record_9 1 rfl rfl ?_
    by_cases cd2 : x1 = 0
    · rw [if_pos cd2] at hf
      refine xr_tableIn C 52 0 dX6_record_10 (by rw [cd2]; decide) (by decide) (by decide) rfl (by decide) ?_
      refine xr_aload_n C dX6_record_52 0 rfl rfl ?_
      refine xr_get C (ci := 6) (Cn := RX6) (T := TX6) (N := 23) (v := .int (h0 0 10)) 0 (by decide) rfl rfl 10 (by decide) wnX6 wl65 rfl rfl dX6_record_53 ?_
      cases hf
      exact xr_iret C hlk hr dX6_record_56
    rw [if_neg cd2] at hf
    by_cases cd3 : x1 = 1
    · rw [if_pos cd3] at hf
      refine xr_tableIn C 57 1 dX6_record_10 (by rw [cd3]; decide) (by decide) (by decide) rfl (by decide) ?_
      refine xr_aload_n C dX6_record_57 0 rfl rfl ?_
      refine xr_get C (ci := 6) (Cn := RX6) (T := TX6) (N := 23) (v := .int (h0 0 11)) 0 (by decide) rfl rfl 11 (by decide) wnX6 wl71 rfl rfl dX6_record_58 ?_
      cases hf
      exact xr_iret C hlk hr dX6_record_61
    rw [if_neg cd3] at hf
    by_cases cd4 : x1 = 2
    · rw [if_pos cd4] at hf
      refine xr_tableIn C 62 2 dX6_record_10 (by rw [cd4]; decide) (by decide) (by decide) rfl (by decide) ?_
      refine xr_aload_n C dX6_record_62 0 rfl rfl ?_
      refine xr_get C (ci := 6) (Cn := RX6) (T := TX6) (N := 23) (v := .int (h0 0 15)) 0 (by decide) rfl rfl 15 (by decide) wnX6 wl74 rfl rfl dX6_record_63 ?_
      cases hf
      exact xr_iret C hlk hr dX6_record_66
    rw [if_neg cd4] at hf
    by_cases cd5 : x1 = 3
    · rw [if_pos cd5] at hf
      refine xr_tableIn C 67 3 dX6_record_10 (by rw [cd5]; decide) (by decide) (by decide) rfl (by decide) ?_
      refine xr_aload_n C dX6_record_67 0 rfl rfl ?_
      refine xr_get C (ci := 6) (Cn := RX6) (T := TX6) (N := 23) (v := .int (h0 0 17)) 0 (by decide) rfl rfl 17 (by decide) wnX6 wl77 rfl rfl dX6_record_68 ?_
      cases hf
      exact xr_iret C hlk hr dX6_record_71
    rw [if_neg cd5] at hf
    by_cases cd6 : x1 = 4
    · rw [if_pos cd6] at hf
      refine xr_tableIn C 72 4 dX6_record_10 (by rw [cd6]; decide) (by decide) (by decide) rfl (by decide) ?_
      refine xr_aload_n C dX6_record_72 0 rfl rfl ?_
      obtain ⟨rr8, ee7, hf⟩ := bR_some hf
      refine xr_callVi C (Cn := RX6) 0 (by decide) rfl rfl [] [] (c_X6_allPages l dC dI cI cZ a hD h0 ee7) (cwV 0 C.2.2.1 gX6_record_X6_allPages rfl rfl rfl (by decide +kernel) ⟨Nat.le_of_ble_eq_true rfl, Nat.le_of_ble_eq_true rfl⟩) rfl rfl (Nat.le_of_ble_eq_true rfl) dX6_record_73 ?_
      cases hf
      exact xr_iret C hlk hr dX6_record_76
    rw [if_neg cd6] at hf
    by_cases cd9 : x1 = 5
    · rw [if_pos cd9] at hf
      refine xr_tableIn C 77 5 dX6_record_10 (by rw [cd9]; decide) (by decide) (by decide) rfl (by decide) ?_
      refine xr_aload_n C dX6_record_77 0 rfl rfl ?_
      refine xr_get C (ci := 6) (Cn := RX6) (T := TX6) (N := 23) (v := .int (h0 0 21)) 0 (by decide) rfl rfl 21 (by decide) wnX6 wl80 rfl rfl dX6_record_78 ?_
      cases hf
      exact xr_iret C hlk hr dX6_record_81
    rw [if_neg cd9] at hf
    by_cases cd10 : x1 = 6
    · rw [if_pos cd10] at hf
      refine xr_tableIn C 82 6 dX6_record_10 (by rw [cd10]; decide) (by decide) (by decide) rfl (by decide) ?_
      refine xr_aload_n C dX6_record_82 0 rfl rfl ?_
      refine xr_get C (ci := 6) (Cn := RX6) (T := TX6) (N := 23) (v := .int (h0 0 22)) 0 (by decide) rfl rfl 22 (by decide) wnX6 wl83 rfl rfl dX6_record_83 ?_
      refine xr_if_eq C 93 dX6_record_86 (by decide) (fun cd11 => ?_) (fun cd11 => ?_)
      · rw [if_pos cd11] at hf
        refine xr_iconst C (v := 0) dX6_record_93 (by decide +kernel) ?_
        cases hf
        exact xr_iret C hlk hr dX6_record_94
      · rw [if_neg cd11] at hf
        refine xr_iconst C (v := 1) dX6_record_89 (by decide +kernel) ?_
        refine xr_goto C 94 dX6_record_90 (by decide) ?_
        cases hf
        exact xr_iret C hlk hr dX6_record_94
    rw [if_neg cd10] at hf
    refine xr_tableOut C 95 dX6_record_10 (by have qcd2 := lv_neT cd2 (show Int32.toInt 0 = 0 from by decide); have qcd3 := lv_neT cd3 (show Int32.toInt 1 = 1 from by decide); have qcd4 := lv_neT cd4 (show Int32.toInt 2 = 2 from by decide); have qcd5 := lv_neT cd5 (show Int32.toInt 3 = 3 from by decide); have qcd6 := lv_neT cd6 (show Int32.toInt 4 = 4 from by decide); have qcd9 := lv_neT cd9 (show Int32.toInt 5 = 5 from by decide); have qcd10 := lv_neT cd10 (show Int32.toInt 6 = 6 from by decide); omega) (by decide) ?_
    refine xr_iconst C (v := (-1)) dX6_record_95 (by decide +kernel) ?_
    cases hf
    exact xr_iret C hlk hr dX6_record_96
  · rw [if_pos cd1] at hf
    refine xr_iconst C (v := (-1)) dX6_record_7 (by decide +kernel) ?_
    cases hf
    exact xr_iret C hlk hr dX6_record_8
def f_X6_pages (h0 : hp) (x1 : Int32) : Option Int32 := if h0 0 9 = 0 then (some (-1)) else (if x1 < 0 then (some (-1)) else (if h0 0 17 ≤ x1 then (some (-1)) else (gd (¬ (x1 < 0 ∨ 40 ≤ x1.toNatClampNeg)) (some (h0 8 x1.toNatClampNeg)))))
abbrev rmX6_pages : Room := { frames := 0, cells := 0, slots := 0, locals := 0 }
set_option maxHeartbeats 4000000 in
set_option maxRecDepth 100000 in
theorem c_X6_pages (l : Launch) (dC : Nat → ClassId) (dI : Nat → Nat → Nat) (cI cZ : ClassId) (a : Nat → Nat) (hD : xD 11 a) (h0 : hp) (x1 : Int32) {r9 : Int32} (hf : f_X6_pages h0 x1 = some r9) : XMi l yX6_pages wsX6_pages rmX6_pages (dC, dI) vwCl (mty cI cZ) 11 a (mcf cI cZ a) h0 [.ref (a 0), .int x1] r9 h0 := by
  refine xm_i (cc := cX6_pages) (maxL := 2) (ws' := wsX6_pages.tail) (by decide) rfl hD (Nat.le_of_ble_eq_true rfl) [(0, .ref (a 0)), (1, .int x1)] rfl RX6 rfl ?_
  intro p e s m args below meth c C hlk hr
  have wl45 : Cond.fieldLink RX6 45 "RewindBoxModel" "records" "Z" ∈ wsX6_pages := by decide +kernel
  have wnX6 : ∀ w ∈ u_ws RX6 TX6 23, w ∈ wsX6_pages := by decide +kernel
  have wl77 : Cond.fieldLink RX6 77 "RewindBoxModel" "snapshots" "I" ∈ wsX6_pages := by decide +kernel
  have wl31 : Cond.fieldLink RX6 31 "RewindBoxModel" "pagesOf" "[I" ∈ wsX6_pages := by decide +kernel
  unfold f_X6_pages at hf
  refine xr_aload_n C dX6_pages_0 0 rfl rfl ?_
  refine xr_get C (ci := 6) (Cn := RX6) (T := TX6) (N := 23) (v := .int (h0 0 9)) 0 (by decide) rfl rfl 9 (by decide) wnX6 wl45 rfl rfl dX6_pages_1 ?_
  refine xr_if_eq C 28 dX6_pages_4 (by decide) (fun cd1 => ?_) (fun cd1 => ?_)
  · rw [if_pos cd1] at hf
    refine xr_iconst C (v := (-1)) dX6_pages_28 (by decide +kernel) ?_
    cases hf
    exact xr_iret C hlk hr dX6_pages_29
  · rw [if_neg cd1] at hf
    refine xr_iload_n C dX6_pages_7 1 rfl rfl ?_
    refine xr_if_lt C 28 dX6_pages_8 (by decide) (fun cd2 => ?_) (fun cd2 => ?_)
    · rw [if_pos cd2] at hf
      refine xr_iconst C (v := (-1)) dX6_pages_28 (by decide +kernel) ?_
      cases hf
      exact xr_iret C hlk hr dX6_pages_29
    · rw [if_neg cd2] at hf
      refine xr_iload_n C dX6_pages_11 1 rfl rfl ?_
      refine xr_aload_n C dX6_pages_12 0 rfl rfl ?_
      refine xr_get C (ci := 6) (Cn := RX6) (T := TX6) (N := 23) (v := .int (h0 0 17)) 0 (by decide) rfl rfl 17 (by decide) wnX6 wl77 rfl rfl dX6_pages_13 ?_
      refine xr_icmp_ge C 28 dX6_pages_16 (by decide) (fun cd3 => ?_) (fun cd3 => ?_)
      · rw [if_pos cd3] at hf
        refine xr_iconst C (v := (-1)) dX6_pages_28 (by decide +kernel) ?_
        cases hf
        exact xr_iret C hlk hr dX6_pages_29
      · rw [if_neg cd3] at hf
        refine xr_aload_n C dX6_pages_19 0 rfl rfl ?_
        refine xr_get C (ci := 6) (Cn := RX6) (T := TX6) (N := 23) (v := .ref (a 8)) 0 (by decide) rfl rfl 18 (by decide) wnX6 wl31 rfl rfl dX6_pages_20 ?_
        refine xr_iload_n C dX6_pages_23 1 rfl rfl ?_
        obtain ⟨gg4, hf⟩ := gd_some hf
        refine xr_iald C (v := h0 8 x1.toNatClampNeg) 8 (by decide) 0 rfl rfl gg4 rfl dX6_pages_24 ?_
        refine xr_goto C 29 dX6_pages_25 (by decide) ?_
        cases hf
        exact xr_iret C hlk hr dX6_pages_29
def f_X6_log (h0 : hp) (x1 : Int32) (x2 : Int32) : Option Int32 := if h0 0 9 = 0 then (some (-1)) else (if x1 < 0 then (some (-1)) else (if x1 < h0 0 15 then (if x2 = 0 then (gd (¬ (x1 < 0 ∨ 300 ≤ x1.toNatClampNeg)) (some (h0 5 x1.toNatClampNeg))) else (if x2 = 1 then (gd (¬ (x1 < 0 ∨ 300 ≤ x1.toNatClampNeg)) (some (h0 6 x1.toNatClampNeg))) else (if x2 = 2 then (gd (¬ (x1 < 0 ∨ 300 ≤ x1.toNatClampNeg)) (some (h0 7 x1.toNatClampNeg))) else (some (-1))))) else (some (-1))))
abbrev rmX6_log : Room := { frames := 0, cells := 0, slots := 0, locals := 0 }
set_option maxHeartbeats 4000000 in
set_option maxRecDepth 100000 in
theorem c_X6_log (l : Launch) (dC : Nat → ClassId) (dI : Nat → Nat → Nat) (cI cZ : ClassId) (a : Nat → Nat) (hD : xD 11 a) (h0 : hp) (x1 : Int32) (x2 : Int32) {r9 : Int32} (hf : f_X6_log h0 x1 x2 = some r9) : XMi l yX6_log wsX6_log rmX6_log (dC, dI) vwCl (mty cI cZ) 11 a (mcf cI cZ a) h0 [.ref (a 0), .int x1, .int x2] r9 h0 := by
  refine xm_i (cc := cX6_log) (maxL := 3) (ws' := wsX6_log.tail) (by decide) rfl hD (Nat.le_of_ble_eq_true rfl) [(0, .ref (a 0)), (1, .int x1), (2, .int x2)] rfl RX6 rfl ?_
  intro p e s m args below meth c C hlk hr
  have wl45 : Cond.fieldLink RX6 45 "RewindBoxModel" "records" "Z" ∈ wsX6_log := by decide +kernel
  have wnX6 : ∀ w ∈ u_ws RX6 TX6 23, w ∈ wsX6_log := by decide +kernel
  have wl74 : Cond.fieldLink RX6 74 "RewindBoxModel" "entries" "I" ∈ wsX6_log := by decide +kernel
  have wl28 : Cond.fieldLink RX6 28 "RewindBoxModel" "logInput" "[I" ∈ wsX6_log := by decide +kernel
  have wl25 : Cond.fieldLink RX6 25 "RewindBoxModel" "logKind" "[I" ∈ wsX6_log := by decide +kernel
  have wl22 : Cond.fieldLink RX6 22 "RewindBoxModel" "logAt" "[I" ∈ wsX6_log := by decide +kernel
  unfold f_X6_log at hf
  refine xr_aload_n C dX6_log_0 0 rfl rfl ?_
  refine xr_get C (ci := 6) (Cn := RX6) (T := TX6) (N := 23) (v := .int (h0 0 9)) 0 (by decide) rfl rfl 9 (by decide) wnX6 wl45 rfl rfl dX6_log_1 ?_
  refine xr_if_eq C 19 dX6_log_4 (by decide) (fun cd1 => ?_) (fun cd1 => ?_)
  · rw [if_pos cd1] at hf
    refine xr_iconst C (v := (-1)) dX6_log_19 (by decide +kernel) ?_
    cases hf
    exact xr_iret C hlk hr dX6_log_20
  · rw [if_neg cd1] at hf
    refine xr_iload_n C dX6_log_7 1 rfl rfl ?_
    refine xr_if_lt C 19 dX6_log_8 (by decide) (fun cd2 => ?_) (fun cd2 => ?_)
    · rw [if_pos cd2] at hf
      refine xr_iconst C (v := (-1)) dX6_log_19 (by decide +kernel) ?_
      cases hf
      exact xr_iret C hlk hr dX6_log_20
    · rw [if_neg cd2] at hf
      refine xr_iload_n C dX6_log_11 1 rfl rfl ?_
      refine xr_aload_n C dX6_log_12 0 rfl rfl ?_
      refine xr_get C (ci := 6) (Cn := RX6) (T := TX6) (N := 23) (v := .int (h0 0 15)) 0 (by decide) rfl rfl 15 (by decide) wnX6 wl74 rfl rfl dX6_log_13 ?_
      refine xr_icmp_lt C 21 dX6_log_16 (by decide) (fun cd3 => ?_) (fun cd3 => ?_)
      · rw [if_pos cd3] at hf
        refine xr_iload_n C dX6_log_21 2 rfl rfl ?_
        refine xr_if_ne C 34 dX6_log_22 (by decide) (fun cd4 => ?_) (fun cd4 => ?_)
        · rw [if_neg cd4] at hf
          refine xr_iload_n C dX6_log_34 2 rfl rfl ?_
          refine xr_iconst C (v := 1) dX6_log_35 (by decide +kernel) ?_
          refine xr_icmp_ne C 48 dX6_log_36 (by decide) (fun cd5 => ?_) (fun cd5 => ?_)
          · rw [if_neg cd5] at hf
            refine xr_iload_n C dX6_log_48 2 rfl rfl ?_
            refine xr_iconst C (v := 2) dX6_log_49 (by decide +kernel) ?_
            refine xr_icmp_ne C 62 dX6_log_50 (by decide) (fun cd6 => ?_) (fun cd6 => ?_)
            · rw [if_neg cd6] at hf
              refine xr_iconst C (v := (-1)) dX6_log_62 (by decide +kernel) ?_
              cases hf
              exact xr_iret C hlk hr dX6_log_63
            · rw [if_pos cd6] at hf
              refine xr_aload_n C dX6_log_53 0 rfl rfl ?_
              refine xr_get C (ci := 6) (Cn := RX6) (T := TX6) (N := 23) (v := .ref (a 7)) 0 (by decide) rfl rfl 14 (by decide) wnX6 wl28 rfl rfl dX6_log_54 ?_
              refine xr_iload_n C dX6_log_57 1 rfl rfl ?_
              obtain ⟨gg7, hf⟩ := gd_some hf
              refine xr_iald C (v := h0 7 x1.toNatClampNeg) 7 (by decide) 0 rfl rfl gg7 rfl dX6_log_58 ?_
              refine xr_goto C 63 dX6_log_59 (by decide) ?_
              cases hf
              exact xr_iret C hlk hr dX6_log_63
          · rw [if_pos cd5] at hf
            refine xr_aload_n C dX6_log_39 0 rfl rfl ?_
            refine xr_get C (ci := 6) (Cn := RX6) (T := TX6) (N := 23) (v := .ref (a 6)) 0 (by decide) rfl rfl 13 (by decide) wnX6 wl25 rfl rfl dX6_log_40 ?_
            refine xr_iload_n C dX6_log_43 1 rfl rfl ?_
            obtain ⟨gg8, hf⟩ := gd_some hf
            refine xr_iald C (v := h0 6 x1.toNatClampNeg) 6 (by decide) 0 rfl rfl gg8 rfl dX6_log_44 ?_
            refine xr_goto C 63 dX6_log_45 (by decide) ?_
            cases hf
            exact xr_iret C hlk hr dX6_log_63
        · rw [if_pos cd4] at hf
          refine xr_aload_n C dX6_log_25 0 rfl rfl ?_
          refine xr_get C (ci := 6) (Cn := RX6) (T := TX6) (N := 23) (v := .ref (a 5)) 0 (by decide) rfl rfl 12 (by decide) wnX6 wl22 rfl rfl dX6_log_26 ?_
          refine xr_iload_n C dX6_log_29 1 rfl rfl ?_
          obtain ⟨gg9, hf⟩ := gd_some hf
          refine xr_iald C (v := h0 5 x1.toNatClampNeg) 5 (by decide) 0 rfl rfl gg9 rfl dX6_log_30 ?_
          refine xr_goto C 63 dX6_log_31 (by decide) ?_
          cases hf
          exact xr_iret C hlk hr dX6_log_63
      · rw [if_neg cd3] at hf
        refine xr_iconst C (v := (-1)) dX6_log_19 (by decide +kernel) ?_
        cases hf
        exact xr_iret C hlk hr dX6_log_20
def f_X6_register (h0 : hp) (x1 : Int32) : Option Int32 := if x1 < 0 then (if x1 = 8 then (some (h0 0 4)) else (if x1 = 9 then (some (h0 0 5)) else (if x1 = 10 then (if h0 0 6 = 0 then (some 0) else (some 1)) else (some 0)))) else (if 8 ≤ x1 then (if x1 = 8 then (some (h0 0 4)) else (if x1 = 9 then (some (h0 0 5)) else (if x1 = 10 then (if h0 0 6 = 0 then (some 0) else (some 1)) else (some 0)))) else (gd (¬ (x1 < 0 ∨ 8 ≤ x1.toNatClampNeg)) (some (h0 3 x1.toNatClampNeg))))
abbrev rmX6_register : Room := { frames := 0, cells := 0, slots := 0, locals := 0 }
set_option maxHeartbeats 4000000 in
set_option maxRecDepth 100000 in
theorem c_X6_register (l : Launch) (dC : Nat → ClassId) (dI : Nat → Nat → Nat) (cI cZ : ClassId) (a : Nat → Nat) (hD : xD 11 a) (h0 : hp) (x1 : Int32) {r9 : Int32} (hf : f_X6_register h0 x1 = some r9) : XMi l yX6_register wsX6_register rmX6_register (dC, dI) vwCl (mty cI cZ) 11 a (mcf cI cZ a) h0 [.ref (a 0), .int x1] r9 h0 := by
  refine xm_i (cc := cX6_register) (maxL := 2) (ws' := wsX6_register.tail) (by decide) rfl hD (Nat.le_of_ble_eq_true rfl) [(0, .ref (a 0)), (1, .int x1)] rfl RX6 rfl ?_
  intro p e s m args below meth c C hlk hr
  have wl59 : Cond.fieldLink RX6 59 "RewindBoxModel" "open" "Z" ∈ wsX6_register := by decide +kernel
  have wnX6 : ∀ w ∈ u_ws RX6 TX6 23, w ∈ wsX6_register := by decide +kernel
  have wl56 : Cond.fieldLink RX6 56 "RewindBoxModel" "back" "I" ∈ wsX6_register := by decide +kernel
  have wl53 : Cond.fieldLink RX6 53 "RewindBoxModel" "pc" "I" ∈ wsX6_register := by decide +kernel
  have wl16 : Cond.fieldLink RX6 16 "RewindBoxModel" "registers" "[I" ∈ wsX6_register := by decide +kernel
  unfold f_X6_register at hf
  refine xr_iload_n C dX6_register_0 1 rfl rfl ?_
  refine xr_if_lt C 17 dX6_register_1 (by decide) (fun cd1 => ?_) (fun cd1 => ?_)
  · rw [if_pos cd1] at hf
    refine xr_iload_n C dX6_register_17 1 rfl rfl ?_
    refine xr_bipush C (v := 8) dX6_register_18 (by decide +kernel) ?_
    refine xr_icmp_ne C 30 dX6_register_20 (by decide) (fun cd2 => ?_) (fun cd2 => ?_)
    · rw [if_neg cd2] at hf
      refine xr_iload_n C dX6_register_30 1 rfl rfl ?_
      refine xr_bipush C (v := 9) dX6_register_31 (by decide +kernel) ?_
      refine xr_icmp_ne C 43 dX6_register_33 (by decide) (fun cd3 => ?_) (fun cd3 => ?_)
      · rw [if_neg cd3] at hf
        refine xr_iload_n C dX6_register_43 1 rfl rfl ?_
        refine xr_bipush C (v := 10) dX6_register_44 (by decide +kernel) ?_
        refine xr_icmp_ne C 60 dX6_register_46 (by decide) (fun cd4 => ?_) (fun cd4 => ?_)
        · rw [if_neg cd4] at hf
          refine xr_iconst C (v := 0) dX6_register_60 (by decide +kernel) ?_
          cases hf
          exact xr_iret C hlk hr dX6_register_61
        · rw [if_pos cd4] at hf
          refine xr_aload_n C dX6_register_49 0 rfl rfl ?_
          refine xr_get C (ci := 6) (Cn := RX6) (T := TX6) (N := 23) (v := .int (h0 0 6)) 0 (by decide) rfl rfl 6 (by decide) wnX6 wl59 rfl rfl dX6_register_50 ?_
          refine xr_if_eq C 60 dX6_register_53 (by decide) (fun cd5 => ?_) (fun cd5 => ?_)
          · rw [if_pos cd5] at hf
            refine xr_iconst C (v := 0) dX6_register_60 (by decide +kernel) ?_
            cases hf
            exact xr_iret C hlk hr dX6_register_61
          · rw [if_neg cd5] at hf
            refine xr_iconst C (v := 1) dX6_register_56 (by decide +kernel) ?_
            refine xr_goto C 61 dX6_register_57 (by decide) ?_
            cases hf
            exact xr_iret C hlk hr dX6_register_61
      · rw [if_pos cd3] at hf
        refine xr_aload_n C dX6_register_36 0 rfl rfl ?_
        refine xr_get C (ci := 6) (Cn := RX6) (T := TX6) (N := 23) (v := .int (h0 0 5)) 0 (by decide) rfl rfl 5 (by decide) wnX6 wl56 rfl rfl dX6_register_37 ?_
        refine xr_goto C 61 dX6_register_40 (by decide) ?_
        cases hf
        exact xr_iret C hlk hr dX6_register_61
    · rw [if_pos cd2] at hf
      refine xr_aload_n C dX6_register_23 0 rfl rfl ?_
      refine xr_get C (ci := 6) (Cn := RX6) (T := TX6) (N := 23) (v := .int (h0 0 4)) 0 (by decide) rfl rfl 4 (by decide) wnX6 wl53 rfl rfl dX6_register_24 ?_
      refine xr_goto C 61 dX6_register_27 (by decide) ?_
      cases hf
      exact xr_iret C hlk hr dX6_register_61
  · rw [if_neg cd1] at hf
    refine xr_iload_n C dX6_register_4 1 rfl rfl ?_
    refine xr_bipush C (v := 8) dX6_register_5 (by decide +kernel) ?_
    refine xr_icmp_ge C 17 dX6_register_7 (by decide) (fun cd6 => ?_) (fun cd6 => ?_)
    · rw [if_pos cd6] at hf
      refine xr_iload_n C dX6_register_17 1 rfl rfl ?_
      refine xr_bipush C (v := 8) dX6_register_18 (by decide +kernel) ?_
      refine xr_icmp_ne C 30 dX6_register_20 (by decide) (fun cd7 => ?_) (fun cd7 => ?_)
      · rw [if_neg cd7] at hf
        refine xr_iload_n C dX6_register_30 1 rfl rfl ?_
        refine xr_bipush C (v := 9) dX6_register_31 (by decide +kernel) ?_
        refine xr_icmp_ne C 43 dX6_register_33 (by decide) (fun cd8 => ?_) (fun cd8 => ?_)
        · rw [if_neg cd8] at hf
          refine xr_iload_n C dX6_register_43 1 rfl rfl ?_
          refine xr_bipush C (v := 10) dX6_register_44 (by decide +kernel) ?_
          refine xr_icmp_ne C 60 dX6_register_46 (by decide) (fun cd9 => ?_) (fun cd9 => ?_)
          · rw [if_neg cd9] at hf
            refine xr_iconst C (v := 0) dX6_register_60 (by decide +kernel) ?_
            cases hf
            exact xr_iret C hlk hr dX6_register_61
          · rw [if_pos cd9] at hf
            refine xr_aload_n C dX6_register_49 0 rfl rfl ?_
            refine xr_get C (ci := 6) (Cn := RX6) (T := TX6) (N := 23) (v := .int (h0 0 6)) 0 (by decide) rfl rfl 6 (by decide) wnX6 wl59 rfl rfl dX6_register_50 ?_
            refine xr_if_eq C 60 dX6_register_53 (by decide) (fun cd10 => ?_) (fun cd10 => ?_)
            · rw [if_pos cd10] at hf
              refine xr_iconst C (v := 0) dX6_register_60 (by decide +kernel) ?_
              cases hf
              exact xr_iret C hlk hr dX6_register_61
            · rw [if_neg cd10] at hf
              refine xr_iconst C (v := 1) dX6_register_56 (by decide +kernel) ?_
              refine xr_goto C 61 dX6_register_57 (by decide) ?_
              cases hf
              exact xr_iret C hlk hr dX6_register_61
        · rw [if_pos cd8] at hf
          refine xr_aload_n C dX6_register_36 0 rfl rfl ?_
          refine xr_get C (ci := 6) (Cn := RX6) (T := TX6) (N := 23) (v := .int (h0 0 5)) 0 (by decide) rfl rfl 5 (by decide) wnX6 wl56 rfl rfl dX6_register_37 ?_
          refine xr_goto C 61 dX6_register_40 (by decide) ?_
          cases hf
          exact xr_iret C hlk hr dX6_register_61
      · rw [if_pos cd7] at hf
        refine xr_aload_n C dX6_register_23 0 rfl rfl ?_
        refine xr_get C (ci := 6) (Cn := RX6) (T := TX6) (N := 23) (v := .int (h0 0 4)) 0 (by decide) rfl rfl 4 (by decide) wnX6 wl53 rfl rfl dX6_register_24 ?_
        refine xr_goto C 61 dX6_register_27 (by decide) ?_
        cases hf
        exact xr_iret C hlk hr dX6_register_61
    · rw [if_neg cd6] at hf
      refine xr_aload_n C dX6_register_10 0 rfl rfl ?_
      refine xr_get C (ci := 6) (Cn := RX6) (T := TX6) (N := 23) (v := .ref (a 3)) 0 (by decide) rfl rfl 3 (by decide) wnX6 wl16 rfl rfl dX6_register_11 ?_
      refine xr_iload_n C dX6_register_14 1 rfl rfl ?_
      obtain ⟨gg11, hf⟩ := gd_some hf
      refine xr_iald C (v := h0 3 x1.toNatClampNeg) 3 (by decide) 0 rfl rfl gg11 rfl dX6_register_15 ?_
      cases hf
      exact xr_iret C hlk hr dX6_register_16
def f_X6_word (h0 : hp) (x1 : Int32) : Option Int32 := if (f_X6_isPlace x1) = 0 then (some 0) else (gd (¬ (x1 < 0 ∨ 512 ≤ x1.toNatClampNeg)) (some (h0 2 x1.toNatClampNeg)))
abbrev rmX6_word : Room := { frames := 1, cells := 0, slots := 0, locals := 20 }
set_option maxHeartbeats 4000000 in
set_option maxRecDepth 100000 in
theorem c_X6_word (l : Launch) (dC : Nat → ClassId) (dI : Nat → Nat → Nat) (cI cZ : ClassId) (a : Nat → Nat) (hD : xD 11 a) (h0 : hp) (x1 : Int32) {r9 : Int32} (hf : f_X6_word h0 x1 = some r9) : XMi l yX6_word wsX6_word rmX6_word (dC, dI) vwCl (mty cI cZ) 11 a (mcf cI cZ a) h0 [.ref (a 0), .int x1] r9 h0 := by
  refine xm_i (cc := cX6_word) (maxL := 2) (ws' := wsX6_word.tail) (by decide) rfl hD (Nat.le_of_ble_eq_true rfl) [(0, .ref (a 0)), (1, .int x1)] rfl RX6 rfl ?_
  intro p e s m args below meth c C hlk hr
  have wl13 : Cond.fieldLink RX6 13 "RewindBoxModel" "memory" "[I" ∈ wsX6_word := by decide +kernel
  have wnX6 : ∀ w ∈ u_ws RX6 TX6 23, w ∈ wsX6_word := by decide +kernel
  unfold f_X6_word at hf
  refine xr_iload_n C dX6_word_0 1 rfl rfl ?_
  refine xr_callSi C [.int x1] [] (c_X6_isPlace l dC dI cI cZ a hD h0 x1 rfl) (va_cwS 1 C.2.2.1 gX6_word_X6_isPlace rfl rfl rfl (by decide +kernel) ⟨Nat.le_of_ble_eq_true rfl, Nat.le_of_ble_eq_true rfl⟩) rfl rfl (Nat.le_of_ble_eq_true rfl) dX6_word_1 ?_
  refine xr_if_eq C 16 dX6_word_4 (by decide) (fun cd1 => ?_) (fun cd1 => ?_)
  · rw [if_pos cd1] at hf
    refine xr_iconst C (v := 0) dX6_word_16 (by decide +kernel) ?_
    cases hf
    exact xr_iret C hlk hr dX6_word_17
  · rw [if_neg cd1] at hf
    refine xr_aload_n C dX6_word_7 0 rfl rfl ?_
    refine xr_get C (ci := 6) (Cn := RX6) (T := TX6) (N := 23) (v := .ref (a 2)) 0 (by decide) rfl rfl 2 (by decide) wnX6 wl13 rfl rfl dX6_word_8 ?_
    refine xr_iload_n C dX6_word_11 1 rfl rfl ?_
    obtain ⟨gg2, hf⟩ := gd_some hf
    refine xr_iald C (v := h0 2 x1.toNatClampNeg) 2 (by decide) 0 rfl rfl gg2 rfl dX6_word_12 ?_
    refine xr_goto C 17 dX6_word_13 (by decide) ?_
    cases hf
    exact xr_iret C hlk hr dX6_word_17
def f_X6_outs (h0 : hp)  : Option Int32 := some (h0 0 8)
abbrev rmX6_outs : Room := { frames := 0, cells := 0, slots := 0, locals := 0 }
set_option maxHeartbeats 4000000 in
set_option maxRecDepth 100000 in
theorem c_X6_outs (l : Launch) (dC : Nat → ClassId) (dI : Nat → Nat → Nat) (cI cZ : ClassId) (a : Nat → Nat) (hD : xD 11 a) (h0 : hp)  {r9 : Int32} (hf : f_X6_outs h0  = some r9) : XMi l yX6_outs wsX6_outs rmX6_outs (dC, dI) vwCl (mty cI cZ) 11 a (mcf cI cZ a) h0 [.ref (a 0)] r9 h0 := by
  refine xm_i (cc := cX6_outs) (maxL := 1) (ws' := wsX6_outs.tail) (by decide) rfl hD (Nat.le_of_ble_eq_true rfl) [(0, .ref (a 0))] rfl RX6 rfl ?_
  intro p e s m args below meth c C hlk hr
  have wl62 : Cond.fieldLink RX6 62 "RewindBoxModel" "sent" "I" ∈ wsX6_outs := by decide +kernel
  have wnX6 : ∀ w ∈ u_ws RX6 TX6 23, w ∈ wsX6_outs := by decide +kernel
  unfold f_X6_outs at hf
  refine xr_aload_n C dX6_outs_0 0 rfl rfl ?_
  refine xr_get C (ci := 6) (Cn := RX6) (T := TX6) (N := 23) (v := .int (h0 0 8)) 0 (by decide) rfl rfl 8 (by decide) wnX6 wl62 rfl rfl dX6_outs_1 ?_
  cases hf
  exact xr_iret C hlk hr dX6_outs_4
def f_X6_out (h0 : hp) (x1 : Int32) : Option Int32 := if x1 < 0 then (some 0) else (if h0 0 8 ≤ x1 then (some 0) else (if 64 ≤ x1 then (some 0) else (gd (¬ (x1 < 0 ∨ 64 ≤ x1.toNatClampNeg)) (some (h0 4 x1.toNatClampNeg)))))
abbrev rmX6_out : Room := { frames := 0, cells := 0, slots := 0, locals := 0 }
set_option maxHeartbeats 4000000 in
set_option maxRecDepth 100000 in
theorem c_X6_out (l : Launch) (dC : Nat → ClassId) (dI : Nat → Nat → Nat) (cI cZ : ClassId) (a : Nat → Nat) (hD : xD 11 a) (h0 : hp) (x1 : Int32) {r9 : Int32} (hf : f_X6_out h0 x1 = some r9) : XMi l yX6_out wsX6_out rmX6_out (dC, dI) vwCl (mty cI cZ) 11 a (mcf cI cZ a) h0 [.ref (a 0), .int x1] r9 h0 := by
  refine xm_i (cc := cX6_out) (maxL := 2) (ws' := wsX6_out.tail) (by decide) rfl hD (Nat.le_of_ble_eq_true rfl) [(0, .ref (a 0)), (1, .int x1)] rfl RX6 rfl ?_
  intro p e s m args below meth c C hlk hr
  have wl62 : Cond.fieldLink RX6 62 "RewindBoxModel" "sent" "I" ∈ wsX6_out := by decide +kernel
  have wnX6 : ∀ w ∈ u_ws RX6 TX6 23, w ∈ wsX6_out := by decide +kernel
  have wl19 : Cond.fieldLink RX6 19 "RewindBoxModel" "kept" "[I" ∈ wsX6_out := by decide +kernel
  unfold f_X6_out at hf
  refine xr_iload_n C dX6_out_0 1 rfl rfl ?_
  refine xr_if_lt C 27 dX6_out_1 (by decide) (fun cd1 => ?_) (fun cd1 => ?_)
  · rw [if_pos cd1] at hf
    refine xr_iconst C (v := 0) dX6_out_27 (by decide +kernel) ?_
    cases hf
    exact xr_iret C hlk hr dX6_out_28
  · rw [if_neg cd1] at hf
    refine xr_iload_n C dX6_out_4 1 rfl rfl ?_
    refine xr_aload_n C dX6_out_5 0 rfl rfl ?_
    refine xr_get C (ci := 6) (Cn := RX6) (T := TX6) (N := 23) (v := .int (h0 0 8)) 0 (by decide) rfl rfl 8 (by decide) wnX6 wl62 rfl rfl dX6_out_6 ?_
    refine xr_icmp_ge C 27 dX6_out_9 (by decide) (fun cd2 => ?_) (fun cd2 => ?_)
    · rw [if_pos cd2] at hf
      refine xr_iconst C (v := 0) dX6_out_27 (by decide +kernel) ?_
      cases hf
      exact xr_iret C hlk hr dX6_out_28
    · rw [if_neg cd2] at hf
      refine xr_iload_n C dX6_out_12 1 rfl rfl ?_
      refine xr_bipush C (v := 64) dX6_out_13 (by decide +kernel) ?_
      refine xr_icmp_ge C 27 dX6_out_15 (by decide) (fun cd3 => ?_) (fun cd3 => ?_)
      · rw [if_pos cd3] at hf
        refine xr_iconst C (v := 0) dX6_out_27 (by decide +kernel) ?_
        cases hf
        exact xr_iret C hlk hr dX6_out_28
      · rw [if_neg cd3] at hf
        refine xr_aload_n C dX6_out_18 0 rfl rfl ?_
        refine xr_get C (ci := 6) (Cn := RX6) (T := TX6) (N := 23) (v := .ref (a 4)) 0 (by decide) rfl rfl 7 (by decide) wnX6 wl19 rfl rfl dX6_out_19 ?_
        refine xr_iload_n C dX6_out_22 1 rfl rfl ?_
        obtain ⟨gg4, hf⟩ := gd_some hf
        refine xr_iald C (v := h0 4 x1.toNatClampNeg) 4 (by decide) 0 rfl rfl gg4 rfl dX6_out_23 ?_
        refine xr_goto C 28 dX6_out_24 (by decide) ?_
        cases hf
        exact xr_iret C hlk hr dX6_out_28
end
section
/-! THE PURE SIDE, 1: one instruction. A canonical machine is laid as the reference's rows: 0 4 pc, 0 5 back, 0 6 open, 0 8 sent, 0 10 position, 2 memory, 3 registers, 4 kept, 9 written pages -/
section PU
def mop (x : Int32) : Int32 := (x.toUInt32 >>> ((24 : Int32).toUInt32 &&& Int32.toUInt32 31)).toInt32
def mfa (x : Int32) : Int32 := (x >>> (16 &&& 31)) &&& 7
def mfb (x : Int32) : Int32 := (x >>> (8 &&& 31)) &&& 7
def mfc (x : Int32) : Int32 := x &&& 7
def mtg (c : hp) (x : Int32) : Int32 := (c 3 (mfb x).toNatClampNeg + x.toInt8.toInt32) &&& 511
theorem g7 (y : Int32) : ¬ ((y &&& 7) < 0 ∨ 8 ≤ (y &&& 7).toNatClampNeg) := pk_andIn y (m := 7) 3 (by decide) (by decide)
theorem g511 (y : Int32) : ¬ ((y &&& 511) < 0 ∨ 512 ≤ (y &&& 511).toNatClampNeg) := pk_andIn y (m := 511) 9 (by decide) (by decide)
theorem e511 (y : Int32) : ∃ j, j < 512 ∧ y &&& 511 = nI j := pk_andE y (m := 511) 9 (by decide)
theorem in_of {v : Int32} {n : Nat} (hn : n < 2 ^ 31) (hs : ¬ v < 0) (d : ¬ nI n ≤ v) : ¬ (v < 0 ∨ n ≤ v.toNatClampNeg) := by
  obtain ⟨j, hj, e⟩ := nI_of hs
  subst e
  rcases Nat.lt_or_ge j n with q | q
  · exact nI_in q hn
  · exact absurd (nI_le q hj) d
theorem nI_d16 {j : Nat} (hj : j < 2 ^ 31) : nI j / 16 = nI (j / 16) := pk_div hj (by decide) (by decide)
theorem g32 (y : Int32) : ¬ (((y &&& 511) / 16) < 0 ∨ 32 ≤ ((y &&& 511) / 16).toNatClampNeg) := by
  obtain ⟨j, hj, e⟩ := e511 y
  rw [e, nI_d16 (by omega)]
  exact nI_in (by omega) (by decide)
theorem g511a (y : Int32) : 0 ≤ (y &&& 511) := by
  obtain ⟨j, hj, e⟩ := e511 y
  rw [e]; exact nI_pos' (by omega)
theorem g511b (y : Int32) : (y &&& 511).toNatClampNeg < 512 := by
  obtain ⟨j, hj, e⟩ := e511 y
  rw [e, nI_clamp (by omega)]; exact hj
theorem g32a (y : Int32) : 0 ≤ (y &&& 511) / 16 := by
  obtain ⟨j, hj, e⟩ := e511 y
  rw [e, nI_d16 (by omega)]; exact nI_pos' (by omega)
theorem g32b (y : Int32) : ((y &&& 511) / 16).toNatClampNeg < 32 := by
  obtain ⟨j, hj, e⟩ := e511 y
  rw [e, nI_d16 (by omega), nI_clamp (by omega)]; omega
/-- one instruction on a canonical machine -/
def ins (c : hp) (x inp op : Int32) : hp :=
  if op = 1 then u2 (u2 c 0 4 ((c 0 4 + 1) &&& 511)) 3 (mfa x).toNatClampNeg (c 3 (mfb x).toNatClampNeg + c 3 (mfc x).toNatClampNeg)
  else if op = 2 then u2 (u2 c 0 4 ((c 0 4 + 1) &&& 511)) 3 (mfa x).toNatClampNeg (c 3 (mfb x).toNatClampNeg - c 3 (mfc x).toNatClampNeg)
  else if op = 3 then u2 (u2 c 0 4 ((c 0 4 + 1) &&& 511)) 3 (mfa x).toNatClampNeg (c 3 (mfb x).toNatClampNeg * c 3 (mfc x).toNatClampNeg)
  else if op = 4 then u2 (u2 c 0 4 ((c 0 4 + 1) &&& 511)) 3 (mfa x).toNatClampNeg (c 3 (mfb x).toNatClampNeg &&& c 3 (mfc x).toNatClampNeg)
  else if op = 5 then u2 (u2 c 0 4 ((c 0 4 + 1) &&& 511)) 3 (mfa x).toNatClampNeg (c 3 (mfb x).toNatClampNeg ^^^ c 3 (mfc x).toNatClampNeg)
  else if op = 6 then u2 (u2 c 0 4 ((c 0 4 + 1) &&& 511)) 3 (mfa x).toNatClampNeg x.toInt16.toInt32
  else if op = 7 then u2 (u2 c 0 4 ((c 0 4 + 1) &&& 511)) 3 (mfa x).toNatClampNeg (c 2 (mtg c x).toNatClampNeg)
  else if op = 8 then u2 (u2 (u2 c 0 4 ((c 0 4 + 1) &&& 511)) 2 (mtg c x).toNatClampNeg (c 3 (mfa x).toNatClampNeg)) 9 (mtg c x / 16).toNatClampNeg 1
  else if op = 9 then u2 c 0 4 (x.toInt16.toInt32 &&& 511)
  else if op = 10 then (if c 3 (mfa x).toNatClampNeg = 0 then u2 c 0 4 (x.toInt16.toInt32 &&& 511) else u2 c 0 4 ((c 0 4 + 1) &&& 511))
  else if op = 11 then (if 0 ≤ c 3 (mfa x).toNatClampNeg then u2 c 0 4 ((c 0 4 + 1) &&& 511) else u2 c 0 4 (x.toInt16.toInt32 &&& 511))
  else if op = 12 then u2 (u2 c 0 4 ((c 0 4 + 1) &&& 511)) 3 (mfa x).toNatClampNeg inp
  else if op = 13 then (if 64 ≤ c 0 8 then u2 (u2 c 0 4 ((c 0 4 + 1) &&& 511)) 0 8 (c 0 8 + 1) else u2 (u2 (u2 c 0 4 ((c 0 4 + 1) &&& 511)) 4 (c 0 8).toNatClampNeg (c 3 (mfa x).toNatClampNeg)) 0 8 (c 0 8 + 1))
  else if op = 14 then u2 (u2 c 0 4 ((c 0 4 + 1) &&& 511)) 3 (mfa x).toNatClampNeg (c 0 10)
  else if op = 15 then u2 (u2 c 0 4 (c 0 5)) 0 6 1
  else if op = 16 then u2 (u2 c 0 4 ((c 0 4 + 1) &&& 511)) 0 6 1
  else if op = 17 then u2 (u2 c 0 4 ((c 0 4 + 1) &&& 511)) 0 6 0
  else if op = 18 then u2 c 0 4 (c 3 (mfa x).toNatClampNeg &&& 511)
  else u2 c 0 4 ((c 0 4 + 1) &&& 511)
theorem u2_app (h : hp) (i k : Nat) (v : Int32) (x y : Nat) : u2 h i k v x y = if x = i then (if y = k then v else h x y) else h x y := rfl
theorem u2_uu (h : hp) (i k : Nat) (v w : Int32) : u2 (u2 h i k v) i k w = u2 h i k w := by
  funext x y
  unfold u2
  by_cases hx : x = i <;> by_cases hy : y = k <;> simp [hx, hy]
set_option maxHeartbeats 4000000 in
/-- the reference does it -/
theorem ins_model (g : hp) (x inp : Int32) (hs : ¬ g 0 8 < 0) : f_X6_instruct g x inp = some (ins g x inp (mop x)) := by
  have ha : ¬ (((x >>> (16 &&& 31)) &&& 7) < 0 ∨ 8 ≤ ((x >>> (16 &&& 31)) &&& 7).toNatClampNeg) := g7 _
  have hb : ¬ (((x >>> (8 &&& 31)) &&& 7) < 0 ∨ 8 ≤ ((x >>> (8 &&& 31)) &&& 7).toNatClampNeg) := g7 _
  have hc : ¬ ((x &&& 7) < 0 ∨ 8 ≤ (x &&& 7).toNatClampNeg) := g7 _
  unfold f_X6_instruct f_X6_move f_X6_work f_X6_meant f_X6_write f_X6_send
  simp only [gd_pos ha, gd_pos hb, gd_pos hc, gl, g511, g32, gd_pos, not_false_eq_true]
  unfold ins mtg mfa mfb mfc
  rw [show (x.toUInt32 >>> ((24 : Int32).toUInt32 &&& Int32.toUInt32 31)).toInt32 = mop x from rfl]
  generalize mop x = op
  by_cases c1 : op = 1
  · subst c1; simp [f_X6_move_84, f_X6_move_98, f_X6_move_113, f_X6_move_130, bV, bR, gd, u2_app, u2_uu, hs, g511a, g511b, g32a, g32b]
  by_cases c2 : op = 2
  · subst c2; simp [f_X6_move_84, f_X6_move_98, f_X6_move_113, f_X6_move_130, bV, bR, gd, u2_app, u2_uu, hs, g511a, g511b, g32a, g32b]
  by_cases c3 : op = 3
  · subst c3; simp [f_X6_move_84, f_X6_move_98, f_X6_move_113, f_X6_move_130, bV, bR, gd, u2_app, u2_uu, hs, g511a, g511b, g32a, g32b]
  by_cases c4 : op = 4
  · subst c4; simp [f_X6_move_84, f_X6_move_98, f_X6_move_113, f_X6_move_130, bV, bR, gd, u2_app, u2_uu, hs, g511a, g511b, g32a, g32b]
  by_cases c5 : op = 5
  · subst c5; simp [f_X6_move_84, f_X6_move_98, f_X6_move_113, f_X6_move_130, bV, bR, gd, u2_app, u2_uu, hs, g511a, g511b, g32a, g32b]
  by_cases c6 : op = 6
  · subst c6; simp [f_X6_move_84, f_X6_move_98, f_X6_move_113, f_X6_move_130, bV, bR, gd, u2_app, u2_uu, hs, g511a, g511b, g32a, g32b]
  by_cases c7 : op = 7
  · subst c7; simp [f_X6_move_84, f_X6_move_98, f_X6_move_113, f_X6_move_130, bV, bR, gd, u2_app, u2_uu, hs, g511a, g511b, g32a, g32b]
  by_cases c8 : op = 8
  · subst c8; simp [f_X6_move_84, f_X6_move_98, f_X6_move_113, f_X6_move_130, bV, bR, gd, u2_app, u2_uu, hs, g511a, g511b, g32a, g32b]
  by_cases c9 : op = 9
  · subst c9; simp [f_X6_move_84, f_X6_move_98, f_X6_move_113, f_X6_move_130, bV, bR, gd, u2_app, u2_uu, hs, g511a, g511b, g32a, g32b]
  by_cases c10 : op = 10
  · subst c10
    by_cases d : g 3 ((x >>> (16 &&& 31)) &&& 7).toNatClampNeg = 0 <;> simp [f_X6_move_84, f_X6_move_98, f_X6_move_113, f_X6_move_130, bV, bR, gd, u2_app, u2_uu, hs, g511a, g511b, g32a, g32b, d]
  by_cases c11 : op = 11
  · subst c11
    by_cases d : (0 : Int32) ≤ g 3 ((x >>> (16 &&& 31)) &&& 7).toNatClampNeg <;> simp [f_X6_move_84, f_X6_move_98, f_X6_move_113, f_X6_move_130, bV, bR, gd, u2_app, u2_uu, hs, g511a, g511b, g32a, g32b, d]
  by_cases c12 : op = 12
  · subst c12; simp [f_X6_move_84, f_X6_move_98, f_X6_move_113, f_X6_move_130, bV, bR, gd, u2_app, u2_uu, hs, g511a, g511b, g32a, g32b]
  by_cases c13 : op = 13
  · subst c13
    by_cases d : 64 ≤ g 0 8
    · simp [f_X6_move_84, f_X6_move_98, f_X6_move_113, f_X6_move_130, bV, bR, gd, u2_app, u2_uu, hs, g511a, g511b, g32a, g32b, d]
    · have d2 : ¬ (g 0 8 < 0 ∨ 64 ≤ (g 0 8).toNatClampNeg) := in_of (n := 64) (by decide) hs d
      simp only [not_or] at d2
      simp [f_X6_move_84, f_X6_move_98, f_X6_move_113, f_X6_move_130, bV, bR, gd, u2_app, u2_uu, hs, g511a, g511b, g32a, g32b, d, d2]
  by_cases c14 : op = 14
  · subst c14; simp [f_X6_move_84, f_X6_move_98, f_X6_move_113, f_X6_move_130, bV, bR, gd, u2_app, u2_uu, hs, g511a, g511b, g32a, g32b]
  by_cases c15 : op = 15
  · subst c15; simp [f_X6_move_84, f_X6_move_98, f_X6_move_113, f_X6_move_130, bV, bR, gd, u2_app, u2_uu, hs, g511a, g511b, g32a, g32b]
  by_cases c16 : op = 16
  · subst c16; simp [f_X6_move_84, f_X6_move_98, f_X6_move_113, f_X6_move_130, bV, bR, gd, u2_app, u2_uu, hs, g511a, g511b, g32a, g32b]
  by_cases c17 : op = 17
  · subst c17; simp [f_X6_move_84, f_X6_move_98, f_X6_move_113, f_X6_move_130, bV, bR, gd, u2_app, u2_uu, hs, g511a, g511b, g32a, g32b]
  by_cases c18 : op = 18
  · subst c18; simp [f_X6_move_84, f_X6_move_98, f_X6_move_113, f_X6_move_130, bV, bR, gd, u2_app, u2_uu, hs, g511a, g511b, g32a, g32b]
  simp [f_X6_move_84, f_X6_move_98, f_X6_move_113, f_X6_move_130, bV, bR, gd, u2_app, u2_uu, hs, g511a, g511b, g32a, g32b, c1, c2, c3, c4, c5, c6, c7, c8, c9, c10, c11, c12, c13, c14, c15, c16, c17, c18]
end PU
end
section
/-! THE PURE SIDE, 2: the class's machine as a canonical one -/
section PU
theorem e7 (y : Int32) : ∃ j, j < 8 ∧ y &&& 7 = nI j := pk_andE y (m := 7) 3 (by decide)
theorem g7a (y : Int32) : 0 ≤ (y &&& 7) := by
  obtain ⟨j, hj, e⟩ := e7 y
  rw [e]; exact nI_pos' (by omega)
theorem g7b (y : Int32) : (y &&& 7).toNatClampNeg < 8 := by
  obtain ⟨j, hj, e⟩ := e7 y
  rw [e, nI_clamp (by omega)]; exact hj
def bitv (w : Int32) (k : Nat) : Int32 := if k < 32 ∧ w.toBitVec.getLsbD k = true then 1 else 0
def kv (h : hp) : hp := fun r k =>
  if r = 0 then (if k = 4 then h 1 3 else if k = 5 then h 1 4 else if k = 6 then h 1 5 else if k = 8 then h 1 6 else if k = 10 then h 0 7 else 0)
  else if r = 2 then h 3 k else if r = 3 then h 2 k else if r = 4 then h 4 k else if r = 9 then bitv (h 1 7) k else 0
theorem u2_ne (h : hp) (i k : Nat) (v : Int32) (x : Nat) (hx : x ≠ i) : u2 h i k v x = h x := by
  funext y
  simp [u2, hx]
theorem kv_pc (h : hp) (v : Int32) : kv (u2 h 1 3 v) = u2 (kv h) 0 4 v := by
  funext r k
  simp only [kv, u2_app]
  by_cases h0 : r = 0 <;> by_cases h1 : k = 4 <;> simp [h0, h1]
theorem kv_back (h : hp) (v : Int32) : kv (u2 h 1 4 v) = u2 (kv h) 0 5 v := by
  funext r k
  simp only [kv, u2_app]
  by_cases h0 : r = 0 <;> by_cases h1 : k = 5 <;> simp [h0, h1]
theorem kv_open (h : hp) (v : Int32) : kv (u2 h 1 5 v) = u2 (kv h) 0 6 v := by
  funext r k
  simp only [kv, u2_app]
  by_cases h0 : r = 0 <;> by_cases h1 : k = 6 <;> simp [h0, h1]
theorem kv_sent (h : hp) (v : Int32) : kv (u2 h 1 6 v) = u2 (kv h) 0 8 v := by
  funext r k
  simp only [kv, u2_app]
  by_cases h0 : r = 0 <;> by_cases h1 : k = 8 <;> simp [h0, h1]
theorem kv_now (h : hp) (v : Int32) : kv (u2 h 0 7 v) = u2 (kv h) 0 10 v := by
  funext r k
  simp only [kv, u2_app]
  by_cases h0 : r = 0 <;> by_cases h1 : k = 10 <;> simp [h0, h1]
theorem kv_reg (h : hp) (j : Nat) (v : Int32) : kv (u2 h 2 j v) = u2 (kv h) 3 j v := by
  funext r k
  simp only [kv, u2_app]
  by_cases h0 : r = 3 <;> simp [h0]
theorem kv_mem (h : hp) (j : Nat) (v : Int32) : kv (u2 h 3 j v) = u2 (kv h) 2 j v := by
  funext r k
  simp only [kv, u2_app]
  by_cases h0 : r = 2 <;> simp [h0]
theorem kv_kept (h : hp) (j : Nat) (v : Int32) : kv (u2 h 4 j v) = u2 (kv h) 4 j v := by
  funext r k
  simp only [kv, u2_app]
  by_cases h0 : r = 4 <;> simp [h0]
theorem pb_tp : ∀ l, l < 32 → ((1 : Int32) <<< (nI l &&& 31)).toBitVec = BitVec.twoPow 32 l := by decide
theorem bitv_or (w : Int32) (l : Nat) (hl : l < 32) (k : Nat) : bitv (w ||| ((1 : Int32) <<< (nI l &&& 31))) k = if k = l then 1 else bitv w k := by
  unfold bitv
  rw [show (w ||| ((1 : Int32) <<< (nI l &&& 31))).toBitVec = w.toBitVec ||| ((1 : Int32) <<< (nI l &&& 31)).toBitVec from rfl, pb_tp l hl, BitVec.getLsbD_or, BitVec.getLsbD_twoPow]
  by_cases hk : k = l
  · subst hk
    simp [hl]
  · have : ¬ l = k := fun q => hk q.symm
    simp [hk, this]
theorem kv_wr (h : hp) (y : Int32) : kv (u2 h 1 7 (h 1 7 ||| ((1 : Int32) <<< (((y &&& 511) / 16) &&& 31)))) = u2 (kv h) 9 ((y &&& 511) / 16).toNatClampNeg 1 := by
  obtain ⟨j, hj, e⟩ := e511 y
  rw [e, nI_d16 (by omega), nI_clamp (by omega)]
  funext r k
  simp only [kv, u2_app]
  by_cases h0 : r = 9
  · simp [h0, bitv_or _ _ (show j / 16 < 32 by omega)]
  · simp [h0]
theorem kv_wr2 {h : hp} {w : Int32} (hw : h 1 7 = w) (y : Int32) : kv (u2 h 1 7 (w ||| ((1 : Int32) <<< (((y &&& 511) / 16) &&& 31)))) = u2 (kv h) 9 ((y &&& 511) / 16).toNatClampNeg 1 := by
  subst hw
  exact kv_wr h y
theorem kv_r0 (h : hp) : kv h 0 4 = h 1 3 ∧ kv h 0 5 = h 1 4 ∧ kv h 0 6 = h 1 5 ∧ kv h 0 8 = h 1 6 ∧ kv h 0 10 = h 0 7 := ⟨rfl, rfl, rfl, rfl, rfl⟩
theorem kv_4 (h : hp) : kv h 0 4 = h 1 3 := rfl
theorem kv_5 (h : hp) : kv h 0 5 = h 1 4 := rfl
theorem kv_8 (h : hp) : kv h 0 8 = h 1 6 := rfl
theorem kv_10 (h : hp) : kv h 0 10 = h 0 7 := rfl
theorem kv_2 (h : hp) (k : Nat) : kv h 2 k = h 3 k := rfl
theorem kv_3 (h : hp) (k : Nat) : kv h 3 k = h 2 k := rfl
set_option maxHeartbeats 4000000 in
/-- the class does one instruction as the canonical machine does -/
theorem ins_class (h : hp) (inp : Int32) (hpc : ¬ (h 1 3 < 0 ∨ 512 ≤ (h 1 3).toNatClampNeg)) (hs : ¬ h 1 6 < 0) :
    ∃ h', f_X2_perform h (h 0 7) inp = some h' ∧ kv h' = ins (kv h) (h 3 (h 1 3).toNatClampNeg) inp (mop (h 3 (h 1 3).toNatClampNeg)) ∧ ∀ i, i ≠ 1 → i ≠ 2 → i ≠ 3 → i ≠ 4 → h' i = h i := by
  unfold f_X2_perform
  rw [gd_pos hpc]
  simp only [gl]
  generalize h 3 (h 1 3).toNatClampNeg = x
  rw [show (x.toUInt32 >>> ((24 : Int32).toUInt32 &&& Int32.toUInt32 31)).toInt32 = mop x from rfl]
  generalize mop x = op
  have ha : ¬ (((x >>> (16 &&& 31)) &&& 7) < 0 ∨ 8 ≤ ((x >>> (16 &&& 31)) &&& 7).toNatClampNeg) := g7 _
  have hb : ¬ (((x >>> (8 &&& 31)) &&& 7) < 0 ∨ 8 ≤ ((x >>> (8 &&& 31)) &&& 7).toNatClampNeg) := g7 _
  have hc : ¬ ((x &&& 7) < 0 ∨ 8 ≤ (x &&& 7).toNatClampNeg) := g7 _
  simp only [f_X2_perform_120, f_X2_perform_258, f_X2_fieldA, f_X2_fieldB, f_X2_fieldC, f_X2_signedHalf, f_X2_signedByte, f_X5_placeOf, f_X2_target, f_X2_store, f_X2_putOut, f_X2_pageBit, gd_pos ha, gd_pos hb, gd_pos hc]
  by_cases c1 : op = 1
  · subst c1
    simp [ins, mtg, mfa, mfb, mfc, f_X2_jump, f_X2_compute, f_X5_placeOf, bV, bR, gd, u2_app, u2_uu, hs, g7a, g7b, g511a, g511b, g32a, g32b, kv_pc, kv_back, kv_open, kv_sent, kv_reg, kv_mem, kv_kept, kv_wr, kv_4, kv_5, kv_8, kv_10, kv_2, kv_3]
    intro i a1 a2 a3 a4; simp [u2_ne, a1, a2, a3, a4]
  by_cases c2 : op = 2
  · subst c2
    simp [ins, mtg, mfa, mfb, mfc, f_X2_jump, f_X2_compute, f_X5_placeOf, bV, bR, gd, u2_app, u2_uu, hs, g7a, g7b, g511a, g511b, g32a, g32b, kv_pc, kv_back, kv_open, kv_sent, kv_reg, kv_mem, kv_kept, kv_wr, kv_4, kv_5, kv_8, kv_10, kv_2, kv_3]
    intro i a1 a2 a3 a4; simp [u2_ne, a1, a2, a3, a4]
  by_cases c3 : op = 3
  · subst c3
    simp [ins, mtg, mfa, mfb, mfc, f_X2_jump, f_X2_compute, f_X5_placeOf, bV, bR, gd, u2_app, u2_uu, hs, g7a, g7b, g511a, g511b, g32a, g32b, kv_pc, kv_back, kv_open, kv_sent, kv_reg, kv_mem, kv_kept, kv_wr, kv_4, kv_5, kv_8, kv_10, kv_2, kv_3]
    intro i a1 a2 a3 a4; simp [u2_ne, a1, a2, a3, a4]
  by_cases c4 : op = 4
  · subst c4
    simp [ins, mtg, mfa, mfb, mfc, f_X2_jump, f_X2_compute, f_X5_placeOf, bV, bR, gd, u2_app, u2_uu, hs, g7a, g7b, g511a, g511b, g32a, g32b, kv_pc, kv_back, kv_open, kv_sent, kv_reg, kv_mem, kv_kept, kv_wr, kv_4, kv_5, kv_8, kv_10, kv_2, kv_3]
    intro i a1 a2 a3 a4; simp [u2_ne, a1, a2, a3, a4]
  by_cases c5 : op = 5
  · subst c5
    simp [ins, mtg, mfa, mfb, mfc, f_X2_jump, f_X2_compute, f_X5_placeOf, bV, bR, gd, u2_app, u2_uu, hs, g7a, g7b, g511a, g511b, g32a, g32b, kv_pc, kv_back, kv_open, kv_sent, kv_reg, kv_mem, kv_kept, kv_wr, kv_4, kv_5, kv_8, kv_10, kv_2, kv_3]
    intro i a1 a2 a3 a4; simp [u2_ne, a1, a2, a3, a4]
  by_cases c6 : op = 6
  · subst c6
    simp [ins, mtg, mfa, mfb, mfc, f_X2_jump, f_X2_compute, f_X5_placeOf, bV, bR, gd, u2_app, u2_uu, hs, g7a, g7b, g511a, g511b, g32a, g32b, kv_pc, kv_back, kv_open, kv_sent, kv_reg, kv_mem, kv_kept, kv_wr, kv_4, kv_5, kv_8, kv_10, kv_2, kv_3]
    intro i a1 a2 a3 a4; simp [u2_ne, a1, a2, a3, a4]
  by_cases c7 : op = 7
  · subst c7
    simp [ins, mtg, mfa, mfb, mfc, f_X2_jump, f_X2_compute, f_X5_placeOf, bV, bR, gd, u2_app, u2_uu, hs, g7a, g7b, g511a, g511b, g32a, g32b, kv_pc, kv_back, kv_open, kv_sent, kv_reg, kv_mem, kv_kept, kv_wr, kv_4, kv_5, kv_8, kv_10, kv_2, kv_3]
    intro i a1 a2 a3 a4; simp [u2_ne, a1, a2, a3, a4]
  by_cases c8 : op = 8
  · subst c8
    simp [ins, mtg, mfa, mfb, mfc, f_X2_jump, f_X2_compute, f_X5_placeOf, bV, bR, gd, u2_app, u2_uu, hs, g7a, g7b, g511a, g511b, g32a, g32b, kv_pc, kv_back, kv_open, kv_sent, kv_reg, kv_mem, kv_kept, kv_wr, kv_4, kv_5, kv_8, kv_10, kv_2, kv_3]
    refine ⟨?_, fun i a1 a2 a3 a4 => by simp [u2_ne, a1, a2, a3, a4]⟩
    rw [kv_wr2 (by simp [u2_app]), kv_mem, kv_pc]
  by_cases c9 : op = 9
  · subst c9
    simp [ins, mtg, mfa, mfb, mfc, f_X2_jump, f_X2_compute, f_X5_placeOf, bV, bR, gd, u2_app, u2_uu, hs, g7a, g7b, g511a, g511b, g32a, g32b, kv_pc, kv_back, kv_open, kv_sent, kv_reg, kv_mem, kv_kept, kv_wr, kv_4, kv_5, kv_8, kv_10, kv_2, kv_3]
    intro i a1 a2 a3 a4; simp [u2_ne, a1, a2, a3, a4]
  by_cases c10 : op = 10
  · subst c10
    by_cases d : h 2 ((x >>> (16 &&& 31)) &&& 7).toNatClampNeg = 0
    · simp [ins, mtg, mfa, mfb, mfc, f_X2_jump, f_X2_compute, f_X5_placeOf, bV, bR, gd, u2_app, u2_uu, hs, g7a, g7b, g511a, g511b, g32a, g32b, kv_pc, kv_back, kv_open, kv_sent, kv_reg, kv_mem, kv_kept, kv_wr, kv_4, kv_5, kv_8, kv_10, kv_2, kv_3, d]
      intro i a1 a2 a3 a4; simp [u2_ne, a1, a2, a3, a4]
    · simp [ins, mtg, mfa, mfb, mfc, f_X2_jump, f_X2_compute, f_X5_placeOf, bV, bR, gd, u2_app, u2_uu, hs, g7a, g7b, g511a, g511b, g32a, g32b, kv_pc, kv_back, kv_open, kv_sent, kv_reg, kv_mem, kv_kept, kv_wr, kv_4, kv_5, kv_8, kv_10, kv_2, kv_3, d]
      intro i a1 a2 a3 a4; simp [u2_ne, a1, a2, a3, a4]
  by_cases c11 : op = 11
  · subst c11
    by_cases d : (0 : Int32) ≤ h 2 ((x >>> (16 &&& 31)) &&& 7).toNatClampNeg
    · simp [ins, mtg, mfa, mfb, mfc, f_X2_jump, f_X2_compute, f_X5_placeOf, bV, bR, gd, u2_app, u2_uu, hs, g7a, g7b, g511a, g511b, g32a, g32b, kv_pc, kv_back, kv_open, kv_sent, kv_reg, kv_mem, kv_kept, kv_wr, kv_4, kv_5, kv_8, kv_10, kv_2, kv_3, d]
      intro i a1 a2 a3 a4; simp [u2_ne, a1, a2, a3, a4]
    · simp [ins, mtg, mfa, mfb, mfc, f_X2_jump, f_X2_compute, f_X5_placeOf, bV, bR, gd, u2_app, u2_uu, hs, g7a, g7b, g511a, g511b, g32a, g32b, kv_pc, kv_back, kv_open, kv_sent, kv_reg, kv_mem, kv_kept, kv_wr, kv_4, kv_5, kv_8, kv_10, kv_2, kv_3, d]
      intro i a1 a2 a3 a4; simp [u2_ne, a1, a2, a3, a4]
  by_cases c12 : op = 12
  · subst c12
    simp [ins, mtg, mfa, mfb, mfc, f_X2_jump, f_X2_compute, f_X5_placeOf, bV, bR, gd, u2_app, u2_uu, hs, g7a, g7b, g511a, g511b, g32a, g32b, kv_pc, kv_back, kv_open, kv_sent, kv_reg, kv_mem, kv_kept, kv_wr, kv_4, kv_5, kv_8, kv_10, kv_2, kv_3]
    intro i a1 a2 a3 a4; simp [u2_ne, a1, a2, a3, a4]
  by_cases c13 : op = 13
  · subst c13
    by_cases d : 64 ≤ h 1 6
    · simp [ins, mtg, mfa, mfb, mfc, f_X2_jump, f_X2_compute, f_X5_placeOf, bV, bR, gd, u2_app, u2_uu, hs, g7a, g7b, g511a, g511b, g32a, g32b, kv_pc, kv_back, kv_open, kv_sent, kv_reg, kv_mem, kv_kept, kv_wr, kv_4, kv_5, kv_8, kv_10, kv_2, kv_3, d]
      intro i a1 a2 a3 a4; simp [u2_ne, a1, a2, a3, a4]
    · have d2 : ¬ (h 1 6 < 0 ∨ 64 ≤ (h 1 6).toNatClampNeg) := in_of (n := 64) (by decide) hs d
      simp only [not_or] at d2
      simp [ins, mtg, mfa, mfb, mfc, f_X2_jump, f_X2_compute, f_X5_placeOf, bV, bR, gd, u2_app, u2_uu, hs, g7a, g7b, g511a, g511b, g32a, g32b, kv_pc, kv_back, kv_open, kv_sent, kv_reg, kv_mem, kv_kept, kv_wr, kv_4, kv_5, kv_8, kv_10, kv_2, kv_3, d, d2]
      intro i a1 a2 a3 a4; simp [u2_ne, a1, a2, a3, a4]
  by_cases c14 : op = 14
  · subst c14
    simp [ins, mtg, mfa, mfb, mfc, f_X2_jump, f_X2_compute, f_X5_placeOf, bV, bR, gd, u2_app, u2_uu, hs, g7a, g7b, g511a, g511b, g32a, g32b, kv_pc, kv_back, kv_open, kv_sent, kv_reg, kv_mem, kv_kept, kv_wr, kv_4, kv_5, kv_8, kv_10, kv_2, kv_3]
    intro i a1 a2 a3 a4; simp [u2_ne, a1, a2, a3, a4]
  by_cases c15 : op = 15
  · subst c15
    simp [ins, mtg, mfa, mfb, mfc, f_X2_jump, f_X2_compute, f_X5_placeOf, bV, bR, gd, u2_app, u2_uu, hs, g7a, g7b, g511a, g511b, g32a, g32b, kv_pc, kv_back, kv_open, kv_sent, kv_reg, kv_mem, kv_kept, kv_wr, kv_4, kv_5, kv_8, kv_10, kv_2, kv_3]
    intro i a1 a2 a3 a4; simp [u2_ne, a1, a2, a3, a4]
  by_cases c16 : op = 16
  · subst c16
    simp [ins, mtg, mfa, mfb, mfc, f_X2_jump, f_X2_compute, f_X5_placeOf, bV, bR, gd, u2_app, u2_uu, hs, g7a, g7b, g511a, g511b, g32a, g32b, kv_pc, kv_back, kv_open, kv_sent, kv_reg, kv_mem, kv_kept, kv_wr, kv_4, kv_5, kv_8, kv_10, kv_2, kv_3]
    intro i a1 a2 a3 a4; simp [u2_ne, a1, a2, a3, a4]
  by_cases c17 : op = 17
  · subst c17
    simp [ins, mtg, mfa, mfb, mfc, f_X2_jump, f_X2_compute, f_X5_placeOf, bV, bR, gd, u2_app, u2_uu, hs, g7a, g7b, g511a, g511b, g32a, g32b, kv_pc, kv_back, kv_open, kv_sent, kv_reg, kv_mem, kv_kept, kv_wr, kv_4, kv_5, kv_8, kv_10, kv_2, kv_3]
    intro i a1 a2 a3 a4; simp [u2_ne, a1, a2, a3, a4]
  by_cases c18 : op = 18
  · subst c18
    simp [ins, mtg, mfa, mfb, mfc, f_X2_jump, f_X2_compute, f_X5_placeOf, bV, bR, gd, u2_app, u2_uu, hs, g7a, g7b, g511a, g511b, g32a, g32b, kv_pc, kv_back, kv_open, kv_sent, kv_reg, kv_mem, kv_kept, kv_wr, kv_4, kv_5, kv_8, kv_10, kv_2, kv_3]
    intro i a1 a2 a3 a4; simp [u2_ne, a1, a2, a3, a4]
  simp [ins, mtg, mfa, mfb, mfc, f_X2_jump, f_X2_compute, f_X5_placeOf, bV, bR, gd, u2_app, u2_uu, hs, g7a, g7b, g511a, g511b, g32a, g32b, kv_pc, kv_back, kv_open, kv_sent, kv_reg, kv_mem, kv_kept, kv_wr, kv_4, kv_5, kv_8, kv_10, kv_2, kv_3, c1, c2, c3, c4, c5, c6, c7, c8, c9, c10, c11, c12, c13, c14, c15, c16, c17, c18]
  intro i a1 a2 a3 a4; simp [u2_ne, a1, a2, a3, a4]
end PU
end
section
/-! THE PURE SIDE, 3: machines that agree, and the history of a record -/
section PU
def dom (r k : Nat) : Prop := (r = 0 ∧ (k = 4 ∨ k = 5 ∨ k = 6 ∨ k = 8 ∨ k = 10)) ∨ (r = 2 ∧ k < 512) ∨ (r = 3 ∧ k < 8) ∨ (r = 9 ∧ k < 32)
def ME (c d : hp) : Prop := ∀ r k, dom r k → c r k = d r k
theorem ME_rf (c : hp) : ME c c := fun _ _ _ => rfl
theorem ME_sy {c d : hp} (h : ME c d) : ME d c := fun r k q => (h r k q).symm
theorem ME_tr {c d e : hp} (h : ME c d) (h2 : ME d e) : ME c e := fun r k q => (h r k q).trans (h2 r k q)
theorem ME.u {c d : hp} (h : ME c d) (i j : Nat) (v : Int32) : ME (u2 c i j v) (u2 d i j v) := by
  intro r k q
  rw [u2_app, u2_app, h r k q]
theorem ME.r4 {c d : hp} (h : ME c d) : c 0 4 = d 0 4 := h 0 4 (Or.inl ⟨rfl, Or.inl rfl⟩)
theorem ME.r5 {c d : hp} (h : ME c d) : c 0 5 = d 0 5 := h 0 5 (Or.inl ⟨rfl, Or.inr (Or.inl rfl)⟩)
theorem ME.r6 {c d : hp} (h : ME c d) : c 0 6 = d 0 6 := h 0 6 (Or.inl ⟨rfl, Or.inr (Or.inr (Or.inl rfl))⟩)
theorem ME.r8 {c d : hp} (h : ME c d) : c 0 8 = d 0 8 := h 0 8 (Or.inl ⟨rfl, Or.inr (Or.inr (Or.inr (Or.inl rfl)))⟩)
theorem ME.r10 {c d : hp} (h : ME c d) : c 0 10 = d 0 10 := h 0 10 (Or.inl ⟨rfl, Or.inr (Or.inr (Or.inr (Or.inr rfl)))⟩)
theorem ME.mem {c d : hp} (h : ME c d) {k : Nat} (hk : k < 512) : c 2 k = d 2 k := h 2 k (Or.inr (Or.inl ⟨rfl, hk⟩))
theorem ME.reg {c d : hp} (h : ME c d) {k : Nat} (hk : k < 8) : c 3 k = d 3 k := h 3 k (Or.inr (Or.inr (Or.inl ⟨rfl, hk⟩)))
theorem ME.wr {c d : hp} (h : ME c d) {k : Nat} (hk : k < 32) : c 9 k = d 9 k := h 9 k (Or.inr (Or.inr (Or.inr ⟨rfl, hk⟩)))
theorem ME.of {c d : hp} (h4 : c 0 4 = d 0 4) (h5 : c 0 5 = d 0 5) (h6 : c 0 6 = d 0 6) (h8 : c 0 8 = d 0 8) (h10 : c 0 10 = d 0 10) (hm : ∀ k, k < 512 → c 2 k = d 2 k) (hr : ∀ k, k < 8 → c 3 k = d 3 k) (hw : ∀ k, k < 32 → c 9 k = d 9 k) : ME c d := by
  intro r k q
  rcases q with ⟨rfl, q⟩ | ⟨rfl, q⟩ | ⟨rfl, q⟩ | ⟨rfl, q⟩
  · rcases q with rfl | rfl | rfl | rfl | rfl <;> assumption
  · exact hm k q
  · exact hr k q
  · exact hw k q
theorem ME_ite {p : Prop} [Decidable p] {a b a' b' : hp} (h1 : p → ME a b) (h2 : ¬ p → ME a' b') : ME (if p then a else a') (if p then b else b') := by
  by_cases hp : p
  · rw [if_pos hp, if_pos hp]; exact h1 hp
  · rw [if_neg hp, if_neg hp]; exact h2 hp
theorem mtg_lt (c : hp) (x : Int32) : (mtg c x).toNatClampNeg < 512 := g511b _
theorem ME_tgt {c d : hp} (h : ME c d) (x : Int32) : mtg c x = mtg d x := by
  unfold mtg
  rw [h.reg (show (mfb x).toNatClampNeg < 8 from g7b _)]
theorem ME_ins {c d : hp} (h : ME c d) (x inp op : Int32) : ME (ins c x inp op) (ins d x inp op) := by
  have e1 : c 3 (mfa x).toNatClampNeg = d 3 (mfa x).toNatClampNeg := h.reg (g7b _)
  have e2 : c 3 (mfb x).toNatClampNeg = d 3 (mfb x).toNatClampNeg := h.reg (g7b _)
  have e3 : c 3 (mfc x).toNatClampNeg = d 3 (mfc x).toNatClampNeg := h.reg (g7b _)
  have e4 : c 2 (mtg d x).toNatClampNeg = d 2 (mtg d x).toNatClampNeg := h.mem (mtg_lt _ _)
  simp only [ins, ME_tgt h x, e1, e2, e3, e4, h.r4, h.r5, h.r8, h.r10]
  repeat' (refine ME_ite (fun _ => ?_) (fun _ => ?_))
  all_goals first | exact ((h.u _ _ _).u _ _ _).u _ _ _ | exact (h.u _ _ _).u _ _ _ | exact h.u _ _ _
/-- the word at PC; one step's action without the count of steps -/
def mxw (c : hp) : Int32 := c 2 (c 0 4).toNatClampNeg
def exi (c : hp) (inp : Int32) : hp := ins c (mxw c) inp (mop (mxw c))
def rng (c : hp) : hp := u2 (u2 (u2 c 0 5 (c 0 4)) 0 4 8) 0 6 0
def act (ev : Option (Int32 × Int32)) (c : hp) : hp := match ev with
  | none => exi c 0
  | some (k, v) => if k = 2 then rng c else exi c v
/-- a machine's places are places, its flags flags -/
def vld (c : hp) : Prop := (∃ j, j < 512 ∧ c 0 4 = nI j) ∧ (∃ j, j < 512 ∧ c 0 5 = nI j) ∧ (c 0 6 = 0 ∨ c 0 6 = 1) ∧ ∀ k, k < 32 → c 9 k = 0 ∨ c 9 k = 1
theorem ME_vld {c d : hp} (h : ME c d) (hv : vld c) : vld d := by
  obtain ⟨h1, h2, h3, h4⟩ := hv
  exact ⟨by rw [← h.r4]; exact h1, by rw [← h.r5]; exact h2, by rw [← h.r6]; exact h3, fun k hk => by rw [← h.wr hk]; exact h4 k hk⟩
theorem vld.pc {c : hp} (hv : vld c) : ¬ (c 0 4 < 0 ∨ 512 ≤ (c 0 4).toNatClampNeg) := by
  obtain ⟨⟨j, hj, e⟩, -⟩ := hv
  rw [e]; exact nI_in hj (by decide)
theorem vld.pcl {c : hp} (hv : vld c) : (c 0 4).toNatClampNeg < 512 := by
  obtain ⟨⟨j, hj, e⟩, -⟩ := hv
  rw [e, nI_clamp (by omega)]; exact hj
theorem ME_xw {c d : hp} (h : ME c d) (hv : vld c) : mxw c = mxw d := by
  unfold mxw
  rw [← h.r4, h.mem hv.pcl]
theorem ME_exi {c d : hp} (h : ME c d) (hv : vld c) (inp : Int32) : ME (exi c inp) (exi d inp) := by
  show ME (ins c (mxw c) inp (mop (mxw c))) (ins d (mxw d) inp (mop (mxw d)))
  rw [ME_xw h hv]
  exact ME_ins h _ _ _
theorem ME_rng {c d : hp} (h : ME c d) : ME (rng c) (rng d) := by
  show ME (u2 (u2 (u2 c 0 5 (c 0 4)) 0 4 8) 0 6 0) (u2 (u2 (u2 d 0 5 (d 0 4)) 0 4 8) 0 6 0)
  rw [h.r4]
  exact ((h.u _ _ _).u _ _ _).u _ _ _
end PU
end
section
/-! THE PURE SIDE, 4: what one step may change -/
section PU
def isp (v : Int32) : Prop := ∃ j, j < 512 ∧ v = nI j
theorem isp_511 (y : Int32) : isp (y &&& 511) := e511 y
def icase (c d : hp) : Prop :=
  (∃ v, isp v ∧ d = u2 c 0 4 v) ∨ (∃ v k w, isp v ∧ k < 8 ∧ d = u2 (u2 c 0 4 v) 3 k w) ∨ (∃ v t w, isp v ∧ t < 512 ∧ d = u2 (u2 (u2 c 0 4 v) 2 t w) 9 (t / 16) 1) ∨
  (∃ v, isp v ∧ 64 ≤ c 0 8 ∧ d = u2 (u2 c 0 4 v) 0 8 (c 0 8 + 1)) ∨ (∃ v w, isp v ∧ ¬ 64 ≤ c 0 8 ∧ d = u2 (u2 (u2 c 0 4 v) 4 (c 0 8).toNatClampNeg w) 0 8 (c 0 8 + 1)) ∨
  (∃ v o, isp v ∧ (o = 0 ∨ o = 1) ∧ d = u2 (u2 c 0 4 v) 0 6 o)
theorem ic1 {c : hp} {v : Int32} (hv : isp v) : icase c (u2 c 0 4 v) := Or.inl ⟨v, hv, rfl⟩
theorem ic2 {c : hp} {v w : Int32} {k : Nat} (hv : isp v) (hk : k < 8) : icase c (u2 (u2 c 0 4 v) 3 k w) := Or.inr (Or.inl ⟨v, k, w, hv, hk, rfl⟩)
theorem ic3 {c : hp} {v w y : Int32} (hv : isp v) : icase c (u2 (u2 (u2 c 0 4 v) 2 (y &&& 511).toNatClampNeg w) 9 ((y &&& 511) / 16).toNatClampNeg 1) := by
  obtain ⟨j, hj, e⟩ := e511 y
  rw [e, nI_d16 (by omega), nI_clamp (by omega), nI_clamp (by omega)]
  exact Or.inr (Or.inr (Or.inl ⟨v, j, w, hv, hj, rfl⟩))
theorem ic4 {c : hp} {v : Int32} (hv : isp v) (h : 64 ≤ c 0 8) : icase c (u2 (u2 c 0 4 v) 0 8 (c 0 8 + 1)) := Or.inr (Or.inr (Or.inr (Or.inl ⟨v, hv, h, rfl⟩)))
theorem ic5 {c : hp} {v w : Int32} (hv : isp v) (h : ¬ 64 ≤ c 0 8) : icase c (u2 (u2 (u2 c 0 4 v) 4 (c 0 8).toNatClampNeg w) 0 8 (c 0 8 + 1)) := Or.inr (Or.inr (Or.inr (Or.inr (Or.inl ⟨v, w, hv, h, rfl⟩))))
theorem ic6 {c : hp} {v o : Int32} (hv : isp v) (h : o = 0 ∨ o = 1) : icase c (u2 (u2 c 0 4 v) 0 6 o) := Or.inr (Or.inr (Or.inr (Or.inr (Or.inr ⟨v, o, hv, h, rfl⟩))))
theorem icase_ite {p : Prop} [Decidable p] {c a b : hp} (h1 : p → icase c a) (h2 : ¬ p → icase c b) : icase c (if p then a else b) := by
  by_cases hp : p
  · rw [if_pos hp]; exact h1 hp
  · rw [if_neg hp]; exact h2 hp
theorem ins_cases {c : hp} (hv : vld c) (x inp op : Int32) : icase c (ins c x inp op) := by
  have hb : isp (c 0 5) := hv.2.1
  have ha : (mfa x).toNatClampNeg < 8 := g7b _
  unfold ins mtg
  repeat' (refine icase_ite (fun _ => ?_) (fun _ => ?_))
  all_goals first | exact ic1 (isp_511 _) | exact ic2 (isp_511 _) ha | exact ic3 (isp_511 _) | (refine ic4 (isp_511 _) ?_; assumption) | (refine ic5 (isp_511 _) ?_; assumption) | exact ic6 (isp_511 _) (Or.inr rfl) | exact ic6 (isp_511 _) (Or.inl rfl) | exact ic6 hb (Or.inr rfl)
/-- what a step leaves as it was, and how it moves the outs and the pages -/
def stepped (c d : hp) : Prop :=
  vld d ∧ d 0 10 = c 0 10 ∧ ((d 0 8 = c 0 8 ∧ d 4 = c 4) ∨ (d 0 8 = c 0 8 + 1 ∧ ∀ k, k ≠ (c 0 8).toNatClampNeg → d 4 k = c 4 k)) ∧
  (∀ k, c 9 k = 1 → d 9 k = 1) ∧ (∀ k, d 9 k = 1 ∨ d 9 k = c 9 k) ∧ ∀ j, j < 512 → d 2 j = c 2 j ∨ d 9 (j / 16) = 1
theorem exi_stepped {c : hp} (hv : vld c) (inp : Int32) : stepped c (exi c inp) := by
  have hc := ins_cases hv (mxw c) inp (mop (mxw c))
  obtain ⟨h1, h2, h3, h4⟩ := hv
  show stepped c (ins c (mxw c) inp (mop (mxw c)))
  generalize ins c (mxw c) inp (mop (mxw c)) = d at hc
  rcases hc with ⟨v, ⟨j, hj, rfl⟩, rfl⟩ | ⟨v, k, w, ⟨j, hj, rfl⟩, hk, rfl⟩ | ⟨v, t, w, ⟨j, hj, rfl⟩, ht, rfl⟩ | ⟨v, ⟨j, hj, rfl⟩, hs, rfl⟩ | ⟨v, w, ⟨j, hj, rfl⟩, hs, rfl⟩ | ⟨v, o, ⟨j, hj, rfl⟩, ho, rfl⟩
  · refine ⟨⟨⟨j, hj, by simp [u2_app]⟩, by simpa [u2_app] using h2, by simpa [u2_app] using h3, by simpa [u2_app] using h4⟩, by simp [u2_app], Or.inl ⟨by simp [u2_app], by rw [u2_ne _ _ _ _ _ (by decide)]⟩, by simp [u2_app], by simp [u2_app], by simp [u2_app]⟩
  · refine ⟨⟨⟨j, hj, by simp [u2_app]⟩, by simpa [u2_app] using h2, by simpa [u2_app] using h3, by simpa [u2_app] using h4⟩, by simp [u2_app], Or.inl ⟨by simp [u2_app], by rw [u2_ne _ _ _ _ _ (by decide), u2_ne _ _ _ _ _ (by decide)]⟩, by simp [u2_app], by simp [u2_app], by simp [u2_app]⟩
  · refine ⟨⟨⟨j, hj, by simp [u2_app]⟩, by simpa [u2_app] using h2, by simpa [u2_app] using h3, fun k hk => ?_⟩, by simp [u2_app], Or.inl ⟨by simp [u2_app], by rw [u2_ne _ _ _ _ _ (by decide), u2_ne _ _ _ _ _ (by decide), u2_ne _ _ _ _ _ (by decide)]⟩, fun k hk => ?_, fun k => ?_, fun i hi => ?_⟩
    · by_cases hkt : k = t / 16
      · simp [u2_app, hkt]
      · simpa [u2_app, hkt] using h4 k hk
    · by_cases hkt : k = t / 16 <;> simp [u2_app, hkt, hk]
    · by_cases hkt : k = t / 16 <;> simp [u2_app, hkt]
    · by_cases hit : i = t
      · right; simp [u2_app, hit]
      · left; simp [u2_app, hit]
  · refine ⟨⟨⟨j, hj, by simp [u2_app]⟩, by simpa [u2_app] using h2, by simpa [u2_app] using h3, by simpa [u2_app] using h4⟩, by simp [u2_app], Or.inr ⟨by simp [u2_app], by simp [u2_app]⟩, by simp [u2_app], by simp [u2_app], by simp [u2_app]⟩
  · refine ⟨⟨⟨j, hj, by simp [u2_app]⟩, by simpa [u2_app] using h2, by simpa [u2_app] using h3, by simpa [u2_app] using h4⟩, by simp [u2_app], Or.inr ⟨by simp [u2_app], fun k hk => by simp [u2_app, hk]⟩, by simp [u2_app], by simp [u2_app], by simp [u2_app]⟩
  · refine ⟨⟨⟨j, hj, by simp [u2_app]⟩, by simpa [u2_app] using h2, by simpa [u2_app] using ho, by simpa [u2_app] using h4⟩, by simp [u2_app], Or.inl ⟨by simp [u2_app], by rw [u2_ne _ _ _ _ _ (by decide), u2_ne _ _ _ _ _ (by decide)]⟩, by simp [u2_app], by simp [u2_app], by simp [u2_app]⟩
theorem rng_stepped {c : hp} (hv : vld c) : stepped c (rng c) := by
  obtain ⟨h1, h2, h3, h4⟩ := hv
  refine ⟨⟨⟨8, by decide, by simp [rng, u2_app]; rfl⟩, by simpa [rng, u2_app] using h1, by simp [rng, u2_app], by simpa [rng, u2_app] using h4⟩, by simp [rng, u2_app], Or.inl ⟨by simp [rng, u2_app], by unfold rng; rw [u2_ne _ _ _ _ _ (by decide), u2_ne _ _ _ _ _ (by decide), u2_ne _ _ _ _ _ (by decide)]⟩, by simp [rng, u2_app], by simp [rng, u2_app], by simp [rng, u2_app]⟩
theorem act_stepped {c : hp} (hv : vld c) (ev : Option (Int32 × Int32)) : stepped c (act ev c) := by
  rcases ev with _ | ⟨k, v⟩
  · exact exi_stepped hv 0
  · show stepped c (if k = 2 then rng c else exi c v)
    by_cases hk : k = 2
    · rw [if_pos hk]; exact rng_stepped hv
    · rw [if_neg hk]; exact exi_stepped hv v
theorem ME_act {c d : hp} (h : ME c d) (hv : vld c) (ev : Option (Int32 × Int32)) : ME (act ev c) (act ev d) := by
  rcases ev with _ | ⟨k, v⟩
  · exact ME_exi h hv 0
  · exact ME_ite (fun _ => ME_rng h) (fun _ => ME_exi h hv v)
theorem pit {α : Type} {P : α → Prop} {p : Prop} [Decidable p] {a b : α} (h1 : p → P a) (h2 : ¬ p → P b) : P (if p then a else b) := by
  by_cases hp : p
  · rw [if_pos hp]; exact h1 hp
  · rw [if_neg hp]; exact h2 hp
/-- the kept outs that went out agree -/
def KE (c d : hp) : Prop := ∀ k, k < 64 → nI k < c 0 8 → c 4 k = d 4 k
theorem sent_lt {m k : Nat} (hm : m < 2 ^ 30) (hk : k < 64) (h : nI k < nI m + 1) : nI k < nI m ∨ k = m := by
  rw [nI_1, nI_ltI (by omega) (by omega)] at h
  rcases Nat.lt_or_ge k m with q | q
  · exact Or.inl (nI_lt q (by omega))
  · exact Or.inr (by omega)
theorem KE_exi {c d : hp} (h : ME c d) (hk : KE c d) (hv : vld c) {m : Nat} (hm : m < 2 ^ 30) (hs : c 0 8 = nI m) (inp : Int32) : KE (exi c inp) (exi d inp) := by
  have hx : mxw c = mxw d := ME_xw h hv
  have e1 : c 3 (mfa (mxw d)).toNatClampNeg = d 3 (mfa (mxw d)).toNatClampNeg := h.reg (g7b _)
  intro k hk64 hlt
  by_cases h13 : mop (mxw d) = 13
  · unfold exi at hlt ⊢
    rw [hx, h13] at hlt ⊢
    by_cases hs64 : 64 ≤ c 0 8
    · have hs64d : 64 ≤ d 0 8 := by rw [← h.r8]; exact hs64
      simp [ins, hs64, hs64d, u2_app] at hlt ⊢
      rw [hs] at hlt hs64
      rcases sent_lt hm hk64 hlt with q | q
      · exact hk k hk64 (by rw [hs]; exact q)
      · subst q
        exact absurd hs64 (fun z => absurd z (nI_ge (a := k) (b := 64) hk64 (by decide)))
    · have hs64d : ¬ 64 ≤ d 0 8 := by rw [← h.r8]; exact hs64
      simp [ins, hs64, hs64d, u2_app] at hlt ⊢
      rw [← h.r8, e1]
      rw [hs] at hlt
      by_cases hkm : k = (c 0 8).toNatClampNeg
      · simp [hkm]
      · simp only [hkm, if_false]
        rcases sent_lt hm hk64 hlt with q | q
        · exact hk k hk64 (by rw [hs]; exact q)
        · exact absurd (by rw [hs, nI_clamp (by omega)]; exact q) hkm
  · have key : ∀ z : hp, (exi z inp) 4 = z 4 ∧ (exi z inp) 0 8 = z 0 8 ∨ mop (mxw z) = 13 := by
      intro z
      by_cases hz : mop (mxw z) = 13
      · exact Or.inr hz
      · left
        unfold exi ins
        simp only [hz, if_false]
        repeat' (refine pit (α := hp) (P := fun d => d 4 = z 4 ∧ d 0 8 = z 0 8) (fun _ => ?_) (fun _ => ?_))
        all_goals exact ⟨by simp [u2_ne], by simp [u2_app]⟩
    rcases key c with ⟨a1, a2⟩ | a1
    · rcases key d with ⟨b1, -⟩ | b1
      · rw [a1, b1]
        rw [a2] at hlt
        exact hk k hk64 hlt
      · exact absurd b1 h13
    · exact absurd (by rw [← hx]; exact a1) h13
theorem KE_act {c d : hp} (h : ME c d) (hk : KE c d) (hv : vld c) {m : Nat} (hm : m < 2 ^ 30) (hs : c 0 8 = nI m) (ev : Option (Int32 × Int32)) : KE (act ev c) (act ev d) := by
  rcases ev with _ | ⟨k, v⟩
  · exact KE_exi h hk hv hm hs 0
  · show KE (if k = 2 then rng c else exi c v) (if k = 2 then rng d else exi d v)
    by_cases hk2 : k = 2
    · rw [if_pos hk2, if_pos hk2]
      intro i hi hlt
      simp [rng, u2_app] at hlt ⊢
      exact hk i hi hlt
    · rw [if_neg hk2, if_neg hk2]; exact KE_exi h hk hv hm hs v
/-- the history: S p is the machine at position p; pas counts the step, and clears the pages where a snapshot lies -/
def pas (I p : Nat) (c : hp) : hp := if (p + 1) % I = 0 then va_up (u2 c 0 10 (nI (p + 1))) 9 (fun _ => 0) else u2 c 0 10 (nI (p + 1))
def Sq (I : Nat) (L : Nat → Option (Int32 × Int32)) (c0 : hp) : Nat → hp
  | 0 => c0
  | p + 1 => pas I p (act (L p) (Sq I L c0 p))
/-- the machine behind step p, before the pages are cleared -/
def Uq (I : Nat) (L : Nat → Option (Int32 × Int32)) (c0 : hp) (p : Nat) : hp := act (L p) (Sq I L c0 p)
theorem vu_at {α : Type} (f : Nat → α) (k : Nat) (v : α) : va_up f k v k = v := by simp [va_up]
theorem vu_ne {α : Type} (f : Nat → α) (k : Nat) (v : α) {j : Nat} (h : j ≠ k) : va_up f k v j = f j := by simp [va_up, h]
theorem pas_row {I p : Nat} {c : hp} {r : Nat} (h0 : r ≠ 0) (h9 : r ≠ 9) : pas I p c r = c r := by
  unfold pas
  by_cases h : (p + 1) % I = 0
  · rw [if_pos h, vu_ne _ _ _ h9, u2_ne _ _ _ _ _ h0]
  · rw [if_neg h, u2_ne _ _ _ _ _ h0]
theorem pas_0 {I p : Nat} {c : hp} {k : Nat} (hk : k ≠ 10) : pas I p c 0 k = c 0 k := by
  unfold pas
  by_cases h : (p + 1) % I = 0
  · rw [if_pos h, vu_ne _ _ _ (by decide)]; simp [u2_app, hk]
  · rw [if_neg h]; simp [u2_app, hk]
theorem pas_10 {I p : Nat} {c : hp} : pas I p c 0 10 = nI (p + 1) := by
  unfold pas
  by_cases h : (p + 1) % I = 0
  · rw [if_pos h, vu_ne _ _ _ (by decide)]; simp [u2_app]
  · rw [if_neg h]; simp [u2_app]
theorem pas_9 {I p : Nat} {c : hp} {k : Nat} : pas I p c 9 k = if (p + 1) % I = 0 then 0 else c 9 k := by
  unfold pas
  by_cases h : (p + 1) % I = 0
  · rw [if_pos h, if_pos h, vu_at]
  · rw [if_neg h, if_neg h, u2_ne _ _ _ _ _ (by decide)]
theorem ME_pas {c d : hp} (h : ME c d) (I p : Nat) : ME (pas I p c) (pas I p d) := by
  refine ME.of ?_ ?_ ?_ ?_ ?_ ?_ ?_ ?_
  · rw [pas_0 (by decide), pas_0 (by decide)]; exact h.r4
  · rw [pas_0 (by decide), pas_0 (by decide)]; exact h.r5
  · rw [pas_0 (by decide), pas_0 (by decide)]; exact h.r6
  · rw [pas_0 (by decide), pas_0 (by decide)]; exact h.r8
  · rw [pas_10, pas_10]
  · intro k hk; rw [pas_row (by decide) (by decide), pas_row (by decide) (by decide)]; exact h.mem hk
  · intro k hk; rw [pas_row (by decide) (by decide), pas_row (by decide) (by decide)]; exact h.reg hk
  · intro k hk; rw [pas_9, pas_9, h.wr hk]
theorem vld_pas {c : hp} (h : vld c) (I p : Nat) : vld (pas I p c) := by
  obtain ⟨h1, h2, h3, h4⟩ := h
  refine ⟨by rw [pas_0 (by decide)]; exact h1, by rw [pas_0 (by decide)]; exact h2, by rw [pas_0 (by decide)]; exact h3, fun k hk => ?_⟩
  rw [pas_9]
  by_cases h : (p + 1) % I = 0
  · rw [if_pos h]; exact Or.inl rfl
  · rw [if_neg h]; exact h4 k hk
/-- every machine of the history is one; its position; at most one out a step -/
theorem Sq_ok {I : Nat} {L : Nat → Option (Int32 × Int32)} {c0 : hp} (hv : vld c0) (h10 : c0 0 10 = nI 0) (h8 : c0 0 8 = nI 0) : ∀ p, vld (Sq I L c0 p) ∧ Sq I L c0 p 0 10 = nI p ∧ ∃ m, m ≤ p ∧ Sq I L c0 p 0 8 = nI m := by
  intro p
  induction p with
  | zero => exact ⟨hv, h10, 0, Nat.le_refl _, h8⟩
  | succ p ih =>
    obtain ⟨a1, a2, m, hm, a3⟩ := ih
    obtain ⟨b1, b2, b3, -⟩ := act_stepped a1 (L p)
    refine ⟨vld_pas b1 I p, pas_10, ?_⟩
    show ∃ m, m ≤ p + 1 ∧ pas I p (act (L p) (Sq I L c0 p)) 0 8 = nI m
    rw [pas_0 (by decide)]
    rcases b3 with ⟨e, -⟩ | ⟨e, -⟩
    · exact ⟨m, by omega, e.trans a3⟩
    · exact ⟨m + 1, by omega, by rw [e, a3, nI_1]⟩
theorem Sq_congr {I : Nat} {L L' : Nat → Option (Int32 × Int32)} {c0 : hp} : ∀ p, (∀ q, q < p → L q = L' q) → Sq I L c0 p = Sq I L' c0 p := by
  intro p
  induction p with
  | zero => intro _; rfl
  | succ p ih =>
    intro h
    show pas I p (act (L p) (Sq I L c0 p)) = pas I p (act (L' p) (Sq I L' c0 p))
    rw [h p (Nat.lt_succ_self p), ih (fun q hq => h q (Nat.lt_succ_of_lt hq))]
/-- outs that went out stay -/
theorem Sq_kept {I : Nat} {L : Nat → Option (Int32 × Int32)} {c0 : hp} (hv : vld c0) (h10 : c0 0 10 = nI 0) (h8 : c0 0 8 = nI 0) {p e : Nat} (hpe : p ≤ e) (he : e < 2 ^ 30) : KE (Sq I L c0 p) (Sq I L c0 e) ∧ ∀ k, k < 64 → nI k < Sq I L c0 p 0 8 → nI k < Sq I L c0 e 0 8 := by
  induction e with
  | zero =>
    obtain rfl : p = 0 := by omega
    exact ⟨fun _ _ _ => rfl, fun _ _ h => h⟩
  | succ e ih =>
    rcases Nat.lt_or_ge p (e + 1) with q | q
    · obtain ⟨i1, i2⟩ := ih (by omega) (by omega)
      obtain ⟨a1, a2, m, hm, a3⟩ := Sq_ok (I := I) (L := L) hv h10 h8 e
      obtain ⟨b1, b2, b3, -⟩ := act_stepped a1 (L e)
      have key : ∀ k, k < 64 → nI k < Sq I L c0 e 0 8 → Sq I L c0 (e + 1) 4 k = Sq I L c0 e 4 k ∧ nI k < Sq I L c0 (e + 1) 0 8 := by
        intro k hk hlt
        show pas I e (act (L e) (Sq I L c0 e)) 4 k = _ ∧ _ < pas I e (act (L e) (Sq I L c0 e)) 0 8
        rw [pas_row (by decide) (by decide), pas_0 (by decide)]
        rcases b3 with ⟨e1, e2⟩ | ⟨e1, e2⟩
        · rw [e1, e2]; exact ⟨rfl, hlt⟩
        · rw [a3] at hlt
          have hkm : k < m := (nI_ltI (by omega) (by omega)).mp hlt
          rw [e1, a3, nI_1]
          refine ⟨e2 k ?_, nI_lt (by omega) (by omega)⟩
          rw [a3, nI_clamp (by omega)]; omega
      refine ⟨fun k hk hlt => ?_, fun k hk hlt => (key k hk (i2 k hk hlt)).2⟩
      rw [(key k hk (i2 k hk hlt)).1]
      exact i1 k hk hlt
    · obtain rfl : p = e + 1 := by omega
      exact ⟨fun _ _ _ => rfl, fun _ _ h => h⟩
end PU
end
section
/-! THE PURE SIDE, 5: loops that fill a row; the reference's pass, rewind, start -/
section PU
def fillr (h : hp) (R j N : Nat) (v : Nat → Int32) : hp := va_up h R (fun k => if j ≤ k ∧ k < N then v k else h R k)
theorem fillr_ne {h : hp} {R j N : Nat} {v : Nat → Int32} {r : Nat} (hr : r ≠ R) : fillr h R j N v r = h r := vu_ne _ _ _ hr
theorem fillr_in {h : hp} {R N : Nat} {v : Nat → Int32} {k : Nat} (hk : k < N) : fillr h R 0 N v R k = v k := by
  unfold fillr
  rw [vu_at, if_pos ⟨Nat.zero_le _, hk⟩]
theorem loop_fill {β : Type} (F : Nat → hp → Int32 → Option β) (N R : Nat) (v : hp → Nat → Int32) (cont : hp → Option β) (hv : ∀ h j w k, v (u2 h R j w) k = v h k)
    (hrec : ∀ n h j, j ≤ N → F (n + 1) h (nI j) = if N ≤ j then cont h else F n (u2 h R j (v h j)) (nI (j + 1))) : ∀ n h j, j ≤ N → N - j < n → F n h (nI j) = cont (fillr h R j N (v h)) := by
  intro n
  induction n with
  | zero => intro h j h1 h2; omega
  | succ n ih =>
    intro h j h1 h2
    rw [hrec n h j h1]
    by_cases hj : N ≤ j
    · rw [if_pos hj]
      congr 1
      funext r k
      unfold fillr
      by_cases hr : r = R
      · subst hr
        rw [vu_at, if_neg (by omega)]
      · rw [vu_ne _ _ _ hr]
    · rw [if_neg hj, ih _ _ (by omega) (by omega)]
      congr 1
      funext r k
      unfold fillr
      by_cases hr : r = R
      · subst hr
        rw [vu_at, vu_at, hv]
        by_cases hk : k = j
        · subst hk
          rw [if_neg (by omega), if_pos (by omega)]
          simp [u2_app]
        · by_cases hk2 : j + 1 ≤ k ∧ k < N
          · rw [if_pos hk2, if_pos (by omega)]
          · rw [if_neg hk2, if_neg (by omega)]
            simp [u2_app, hk]
      · rw [vu_ne _ _ _ hr, vu_ne _ _ _ hr, u2_ne _ _ _ _ _ hr]
theorem le_nI {j N : Nat} (hN : N < 2 ^ 31) (hj : j ≤ N) : (nI N ≤ nI j) = (N ≤ j) := propext ⟨fun h => (nI_leI hN (by omega)).mp h, fun h => (nI_leI hN (by omega)).mpr h⟩
theorem pass_loop (n : Nat) (h : hp) (hn : 32 < n) : f_X6_pass_25 n h 0 = some (fillr h 9 0 32 (fun _ => 0)) := by
  refine loop_fill f_X6_pass_25 32 9 (fun _ _ => 0) (fun h => some h) (fun _ _ _ _ => rfl) (fun n h j hj => ?_) n h 0 (by omega) (by omega)
  rw [f_X6_pass_25]
  by_cases c : 32 ≤ j
  · rw [if_pos c, if_pos (show (32 : Int32) ≤ nI j from nI_le (a := 32) c (by omega))]
  · rw [if_neg c, if_neg (show ¬ (32 : Int32) ≤ nI j from nI_ge (b := 32) (by omega) (by decide)), gd_pos (nI_in (by omega) (by decide)), nI_clamp (by omega), nI_1]
theorem rem_nI {a d : Nat} (ha : a < 2 ^ 31) (h0 : 0 < d) (hd : d < 2 ^ 31) : (nI a - nI a / nI d * nI d = 0) = (a % d = 0) := by
  rw [pk_rem ha h0 hd]
  apply propext
  constructor
  · intro h
    exact (nI_eq (by have := Nat.mod_lt a h0; omega) (by decide)).mp h
  · intro h
    rw [h]; rfl
theorem nI_n0 {d : Nat} (h0 : 0 < d) (hd : d < 2 ^ 31) : ¬ nI d = 0 := nI_ne0 h0 hd
/-- the reference's pass -/
theorem pass_model {g : hp} {I p : Nat} (hI : 2 ≤ I ∧ I ≤ 64) (h0 : g 0 0 = nI I) (hp : p < 2 ^ 30) (h10 : g 0 10 = nI p) :
    ∃ g', f_X6_pass g = some g' ∧ (∀ r, r ≠ 0 → r ≠ 9 → g' r = g r) ∧ (∀ k, k ≠ 10 → g' 0 k = g 0 k) ∧ g' 0 10 = nI (p + 1) ∧ ∀ k, k < 32 → g' 9 k = if (p + 1) % I = 0 then 0 else g 9 k := by
  unfold f_X6_pass
  rw [h0, h10, gd_pos (nI_n0 (by omega) (by omega)), nI_1]
  by_cases c : (p + 1) % I = 0
  · rw [if_pos (by rw [rem_nI (by omega) (by omega) (by omega)]; exact c), pass_loop _ _ (by decide)]
    refine ⟨_, rfl, fun r h1 h2 => ?_, fun k hk => ?_, ?_, fun k hk => ?_⟩
    · rw [fillr_ne h2, u2_ne _ _ _ _ _ h1]
    · rw [fillr_ne (by decide)]; simp [u2_app, hk]
    · rw [fillr_ne (by decide)]; simp [u2_app]
    · rw [fillr_in hk, if_pos c]
  · rw [if_neg (by rw [rem_nI (by omega) (by omega) (by omega)]; exact c)]
    refine ⟨_, rfl, fun r h1 h2 => ?_, fun k hk => ?_, ?_, fun k hk => ?_⟩
    · rw [u2_ne _ _ _ _ _ h1]
    · simp [u2_app, hk]
    · simp [u2_app]
    · rw [if_neg c, u2_ne _ _ _ _ _ (by decide)]
theorem rew50 (n : Nat) (h : hp) (hn : 32 < n) : f_X6_rewind_50 n h 0 = some (u2 (u2 (u2 (u2 (u2 (u2 (fillr h 9 0 32 (fun _ => 0)) 0 4 0) 0 5 0) 0 6 0) 0 8 0) 0 10 0) 0 16 0) := by
  refine loop_fill f_X6_rewind_50 32 9 (fun _ _ => 0) (fun h => some (u2 (u2 (u2 (u2 (u2 (u2 h 0 4 0) 0 5 0) 0 6 0) 0 8 0) 0 10 0) 0 16 0)) (fun _ _ _ _ => rfl) (fun n h j hj => ?_) n h 0 (by omega) (by omega)
  rw [f_X6_rewind_50]
  by_cases c : 32 ≤ j
  · rw [if_pos c, if_pos (show (32 : Int32) ≤ nI j from nI_le (a := 32) c (by omega))]
  · rw [if_neg c, if_neg (show ¬ (32 : Int32) ≤ nI j from nI_ge (b := 32) (by omega) (by decide)), gd_pos (nI_in (by omega) (by decide)), nI_clamp (by omega), nI_1]
theorem rew29 (n : Nat) (h : hp) (hn : 8 < n) : f_X6_rewind_29 n h 0 = f_X6_rewind_50 1000 (fillr h 3 0 8 (fun _ => 0)) 0 := by
  refine loop_fill f_X6_rewind_29 8 3 (fun _ _ => 0) (fun h => f_X6_rewind_50 1000 h 0) (fun _ _ _ _ => rfl) (fun n h j hj => ?_) n h 0 (by omega) (by omega)
  rw [f_X6_rewind_29]
  by_cases c : 8 ≤ j
  · rw [if_pos c, if_pos (show (8 : Int32) ≤ nI j from nI_le (a := 8) c (by omega))]
  · rw [if_neg c, if_neg (show ¬ (8 : Int32) ≤ nI j from nI_ge (b := 8) (by omega) (by decide)), gd_pos (nI_in (by omega) (by decide)), nI_clamp (by omega), nI_1]
theorem rew2 (n : Nat) (h : hp) (hn : 512 < n) : f_X6_rewind_2 n h 0 = f_X6_rewind_29 1000 (fillr h 2 0 512 (h 1)) 0 := by
  refine loop_fill f_X6_rewind_2 512 2 (fun h => h 1) (fun h => f_X6_rewind_29 1000 h 0) (fun h j w k => by simp [u2_app]) (fun n h j hj => ?_) n h 0 (by omega) (by omega)
  rw [f_X6_rewind_2]
  by_cases c : 512 ≤ j
  · rw [if_pos c, if_pos (show (512 : Int32) ≤ nI j from nI_le (a := 512) c (by omega))]
  · rw [if_neg c, if_neg (show ¬ (512 : Int32) ≤ nI j from nI_ge (b := 512) (by omega) (by decide)), gd_pos (nI_in (by omega) (by decide)), gd_pos (nI_in (by omega) (by decide)), nI_clamp (by omega), nI_1]
/-- the machine with which a record begins -/
def ini (f : Nat → Int32) : hp := fun r k => if r = 2 then f k else 0
/-- the reference's rewind -/
theorem rewind_model {g : hp} {f : Nat → Int32} (hf : ∀ k, k < 512 → g 1 k = f k) :
    ∃ g', f_X6_rewind g = some g' ∧ (∀ r, r ≠ 0 → r ≠ 2 → r ≠ 3 → r ≠ 9 → g' r = g r) ∧ (∀ k, k ≠ 4 → k ≠ 5 → k ≠ 6 → k ≠ 8 → k ≠ 10 → k ≠ 16 → g' 0 k = g 0 k) ∧ g' 0 16 = 0 ∧ ME g' (ini f) := by
  unfold f_X6_rewind
  rw [rew2 _ _ (by decide), rew29 _ _ (by decide), rew50 _ _ (by decide)]
  refine ⟨_, rfl, fun r h0 h2 h3 h9 => ?_, fun k h4 h5 h6 h8 h10 h16 => ?_, by simp [u2_app], ?_⟩
  · rw [u2_ne _ _ _ _ _ h0, u2_ne _ _ _ _ _ h0, u2_ne _ _ _ _ _ h0, u2_ne _ _ _ _ _ h0, u2_ne _ _ _ _ _ h0, u2_ne _ _ _ _ _ h0, fillr_ne h9, fillr_ne h3, fillr_ne h2]
  · simp [u2_app, h4, h5, h6, h8, h10, h16]
    rw [fillr_ne (by decide), fillr_ne (by decide), fillr_ne (by decide)]
  · refine ME.of ?_ ?_ ?_ ?_ ?_ (fun k hk => ?_) (fun k hk => ?_) (fun k hk => ?_)
    · simp [u2_app, ini]
    · simp [u2_app, ini]
    · simp [u2_app, ini]
    · simp [u2_app, ini]
    · simp [u2_app, ini]
    · simp only [u2_app, ini]
      simp
      rw [fillr_ne (by decide), fillr_ne (by decide), fillr_in hk]
      exact hf k hk
    · simp only [u2_app, ini]
      simp
      rw [fillr_ne (by decide), fillr_in hk]
    · simp only [u2_app, ini]
      simp
      rw [fillr_in hk]
theorem sta2 (n : Nat) (h : hp) (hn : 512 < n) : f_X6_start_2 n h 0 = bV (f_X6_rewind (u2 (u2 (u2 (u2 (u2 (u2 (u2 (fillr h 1 0 512 (h 2)) 0 9 1) 0 11 0) 0 15 0) 0 17 1) 8 (0 : Int32).toNatClampNeg 0) 0 21 0) 0 22 0)) (fun h3 => some h3) := by
  refine loop_fill f_X6_start_2 512 1 (fun h => h 2) (fun h => bV (f_X6_rewind (u2 (u2 (u2 (u2 (u2 (u2 (u2 h 0 9 1) 0 11 0) 0 15 0) 0 17 1) 8 (0 : Int32).toNatClampNeg 0) 0 21 0) 0 22 0)) (fun h3 => some h3)) (fun h j w k => by simp [u2_app]) (fun n h j hj => ?_) n h 0 (by omega) (by omega)
  rw [f_X6_start_2]
  by_cases c : 512 ≤ j
  · rw [if_pos c, if_pos (show (512 : Int32) ≤ nI j from nI_le (a := 512) c (by omega))]
  · rw [if_neg c, if_neg (show ¬ (512 : Int32) ≤ nI j from nI_ge (b := 512) (by omega) (by decide)), gd_pos (nI_in (by omega) (by decide)), gd_pos (nI_in (by omega) (by decide)), nI_clamp (by omega), nI_1]
theorem fill_class (n : Nat) (h : hp) (hn : 8 < n) : f_J7_fill_53178_5 n h 0 0 8 = some (fillr h 2 0 8 (fun _ => 0)) := by
  refine loop_fill (fun n h x => f_J7_fill_53178_5 n h 0 x 8) 8 2 (fun _ _ => 0) (fun h => some h) (fun _ _ _ _ => rfl) (fun n h j hj => ?_) n h 0 (by omega) (by omega)
  show f_J7_fill_53178_5 (n + 1) h 0 (nI j) 8 = _
  rw [f_J7_fill_53178_5]
  by_cases c : 8 ≤ j
  · rw [if_pos c, if_pos (show (8 : Int32) ≤ nI j from nI_le (a := 8) c (by omega))]
  · rw [if_neg c, if_neg (show ¬ (8 : Int32) ≤ nI j from nI_ge (b := 8) (by omega) (by decide)), gd_pos (nI_in (by omega) (by decide)), nI_clamp (by omega), nI_1]
end PU
end
section
/-! THE PURE SIDE, 6: the log, counts, sums -/
section PU
def lkp (q : Nat → Nat) : Nat → Nat → Option Nat
  | 0, _ => none
  | n + 1, k => if q n = k then some n else lkp q n k
def LG (q : Nat → Nat) (kd vl : Nat → Int32) (n : Nat) : Nat → Option (Int32 × Int32) := fun k => (lkp q n k).map (fun i => (kd i, vl i))
/-- how many entries lie before a position -/
def cb (q : Nat → Nat) : Nat → Nat → Nat
  | 0, _ => 0
  | n + 1, p => cb q n p + (if q n < p then 1 else 0)
def inc (q : Nat → Nat) (n : Nat) : Prop := ∀ i j, i < j → j < n → q i < q j
theorem inc_le {q : Nat → Nat} {n m : Nat} (h : inc q n) (hm : m ≤ n) : inc q m := fun i j h1 h2 => h i j h1 (by omega)
theorem lkp_some {q : Nat → Nat} : ∀ {n k i : Nat}, lkp q n k = some i → i < n ∧ q i = k := by
  intro n
  induction n with
  | zero => intro k i h; cases h
  | succ n ih =>
    intro k i h
    unfold lkp at h
    by_cases c : q n = k
    · rw [if_pos c] at h
      cases h
      exact ⟨by omega, c⟩
    · rw [if_neg c] at h
      obtain ⟨a, b⟩ := ih h
      exact ⟨by omega, b⟩
theorem lkp_of {q : Nat → Nat} : ∀ {n i : Nat}, inc q n → i < n → lkp q n (q i) = some i := by
  intro n
  induction n with
  | zero => intro i _ h; omega
  | succ n ih =>
    intro i hi h
    unfold lkp
    by_cases c : i = n
    · subst c; rw [if_pos rfl]
    · have := hi i n (by omega) (by omega)
      rw [if_neg (by omega)]
      exact ih (inc_le hi (by omega)) (by omega)
theorem lkp_none {q : Nat → Nat} {n k : Nat} (h : ∀ i, i < n → q i ≠ k) : lkp q n k = none := by
  cases e : lkp q n k with
  | none => rfl
  | some i =>
    obtain ⟨a, b⟩ := lkp_some e
    exact absurd b (h i a)
theorem cb_le (q : Nat → Nat) (p : Nat) : ∀ n, cb q n p ≤ n := by
  intro n
  induction n with
  | zero => exact Nat.le_refl _
  | succ n ih =>
    unfold cb
    by_cases c : q n < p
    · rw [if_pos c]; omega
    · rw [if_neg c]; omega
theorem cb_iff {q : Nat → Nat} {p : Nat} : ∀ {n : Nat}, inc q n → ∀ i, i < n → (i < cb q n p ↔ q i < p) := by
  intro n
  induction n with
  | zero => intro _ i h; omega
  | succ n ih =>
    intro hi i h
    have hl := cb_le q p n
    unfold cb
    by_cases c : q n < p
    · rw [if_pos c]
      have hall : ∀ j, j < n → q j < p := fun j hj => Nat.lt_trans (hi j n hj (by omega)) c
      have hcb : cb q n p = n := by
        rcases Nat.lt_or_ge (cb q n p) n with z | z
        · exact absurd ((ih (inc_le hi (by omega)) _ z).mpr (hall _ z)) (by omega)
        · omega
      by_cases hn : i = n
      · subst hn; exact ⟨fun _ => c, fun _ => by omega⟩
      · exact ⟨fun _ => hall i (by omega), fun _ => by omega⟩
    · rw [if_neg c]
      by_cases hn : i = n
      · subst hn; exact ⟨fun z => by omega, fun z => absurd z c⟩
      · exact ih (inc_le hi (by omega)) i (by omega)
theorem cb_all {q : Nat → Nat} {p n : Nat} (hi : inc q n) (h : ∀ i, i < n → q i < p) : cb q n p = n := by
  rcases Nat.lt_or_ge (cb q n p) n with z | z
  · exact absurd ((cb_iff hi _ z).mpr (h _ z)) (by omega)
  · have := cb_le q p n; omega
/-- behind a position: one more entry just where one lies there -/
theorem cb_step {q : Nat → Nat} {n p : Nat} (hi : inc q n) : cb q n (p + 1) = if cb q n p < n ∧ q (cb q n p) = p then cb q n p + 1 else cb q n p := by
  have key : ∀ m, m ≤ n → (∀ i, i < n → (i < m ↔ q i < p + 1)) → cb q n (p + 1) = m := by
    intro m hm h
    have h1 := cb_le q (p + 1) n
    rcases Nat.lt_trichotomy (cb q n (p + 1)) m with z | z | z
    · exact absurd ((cb_iff hi _ (by omega)).mpr ((h _ (by omega)).mp z)) (by omega)
    · exact z
    · exact absurd ((h _ (by omega)).mpr ((cb_iff hi _ (by omega)).mp z)) (by omega)
  have hl := cb_le q p n
  by_cases c : cb q n p < n ∧ q (cb q n p) = p
  · rw [if_pos c]
    refine key _ (by omega) (fun i hin => ?_)
    constructor
    · intro z
      rcases Nat.lt_or_ge i (cb q n p) with y | y
      · have := (cb_iff hi i hin).mp y; omega
      · obtain rfl : i = cb q n p := by omega
        omega
    · intro z
      rcases Nat.lt_or_ge i (cb q n p + 1) with y | y
      · exact y
      · have := hi (cb q n p) i (by omega) hin; omega
  · rw [if_neg c]
    refine key _ hl (fun i hin => ?_)
    constructor
    · intro z; have := (cb_iff hi i hin).mp z; omega
    · intro z
      rcases Nat.lt_or_ge i (cb q n p) with y | y
      · exact y
      · exfalso
        have h1 : ¬ q i < p := fun w => absurd ((cb_iff hi i hin).mpr w) (by omega)
        have h2 : ¬ q (cb q n p) < p := fun w => absurd ((cb_iff hi _ (by omega)).mpr w) (by omega)
        have h3 : q (cb q n p) ≤ q i := by
          rcases Nat.lt_or_ge (cb q n p) i with w | w
          · exact Nat.le_of_lt (hi _ _ w hin)
          · obtain rfl : i = cb q n p := by omega
            exact Nat.le_refl _
        exact c ⟨by omega, by omega⟩
theorem LG_at {q : Nat → Nat} {kd vl : Nat → Int32} {n p : Nat} (hi : inc q n) : LG q kd vl n p = if cb q n p < n ∧ q (cb q n p) = p then some (kd (cb q n p), vl (cb q n p)) else none := by
  unfold LG
  by_cases c : cb q n p < n ∧ q (cb q n p) = p
  · rw [if_pos c]
    have := lkp_of hi c.1
    rw [c.2] at this
    rw [this]; rfl
  · rw [if_neg c, lkp_none]
    · rfl
    · intro i hin e
      have h1 : ¬ i < cb q n p := fun z => by have := (cb_iff hi i hin).mp z; omega
      have h2 : ¬ q (cb q n p) < p := fun w => absurd ((cb_iff hi _ (by omega)).mpr w) (by omega)
      rcases Nat.lt_or_ge (cb q n p) i with w | w
      · have := hi _ _ w hin; omega
      · obtain rfl : i = cb q n p := by omega
        exact c ⟨hin, e⟩
/-- the class's search by jumps that halve -/
theorem cb_loop {h : hp} {q : Nat → Nat} {n p : Nat} (hn : n ≤ 300) (h3 : h 7 3 = nI n) (hq : ∀ i, i < n → h 8 i = nI (q i)) (hb : ∀ i, i < n → q i < 2 ^ 30) (hp : p < 2 ^ 30) (hi : inc q n) :
    ∀ s m b, b ≤ cb q n p → cb q n p < b + 2 ^ s → s < m → s ≤ 9 → f_X1_countBefore_6 m h (nI p) (nI b) (nI (2 ^ s / 2)) = some (nI (cb q n p)) := by
  have hl := cb_le q p n
  intro s
  induction s with
  | zero =>
    intro m b h1 h2 hm _
    obtain ⟨m, rfl⟩ : ∃ k, m = k + 1 := ⟨m - 1, by omega⟩
    obtain rfl : b = cb q n p := by simp at h2; omega
    rw [f_X1_countBefore_6]
    rw [if_pos (show nI (2 ^ 0 / 2) ≤ 0 from by decide)]
  | succ s ih =>
    intro m b h1 h2 hm h9
    obtain ⟨m, rfl⟩ : ∃ k, m = k + 1 := ⟨m - 1, by omega⟩
    have hs : (2 : Nat) ^ s ≤ 256 := Nat.le_trans (Nat.pow_le_pow_right (by decide) (show s ≤ 8 by omega)) (by decide)
    have hs0 : 0 < (2 : Nat) ^ s := Nat.pow_pos (by decide)
    have e2 : (2 : Nat) ^ (s + 1) / 2 = 2 ^ s := by rw [Nat.pow_succ]; omega
    rw [Nat.pow_succ] at h2
    rw [e2, f_X1_countBefore_6, if_neg (nI_nle hs0 (by omega))]
    simp only [gl]
    rw [h3, nI_add, show nI (2 ^ s) / 2 = nI (2 ^ s / 2) from pk_div (d := 2) (by omega) (by decide) (by decide)]
    by_cases c1 : n < b + 2 ^ s
    · rw [if_pos (nI_lt c1 (by omega))]
      exact ih m b h1 (by omega) (by omega) (by omega)
    · rw [if_neg (nI_nlt (by omega) (by omega))]
      have e3 : nI (b + 2 ^ s) - 1 = nI (b + 2 ^ s - 1) := by
        have := pk_sub (a := b + 2 ^ s) (b := 1) (by omega)
        exact this
      rw [e3, gd_pos (nI_in (by omega) (by decide)), nI_clamp (by omega), hq _ (by omega)]
      have hqb := hb (b + 2 ^ s - 1) (by omega)
      have hiff := cb_iff (p := p) hi (b + 2 ^ s - 1) (by omega)
      by_cases c2 : p ≤ q (b + 2 ^ s - 1)
      · rw [if_pos (nI_le c2 (by omega))]
        exact ih m b h1 (by omega) (by omega) (by omega)
      · rw [if_neg (nI_ge (by omega) (by omega))]
        exact ih m (b + 2 ^ s) (by omega) (by omega) (by omega) (by omega)
theorem cb_class {h : hp} {q : Nat → Nat} {n p : Nat} (hn : n ≤ 300) (h3 : h 7 3 = nI n) (hq : ∀ i, i < n → h 8 i = nI (q i)) (hb : ∀ i, i < n → q i < 2 ^ 30) (hp : p < 2 ^ 30) (hi : inc q n) : f_X1_countBefore h (nI p) = some (nI (cb q n p)) := by
  have hl := cb_le q p n
  exact cb_loop hn h3 hq hb hp hi 9 1000 0 (Nat.zero_le _) (by omega) (by decide) (by decide)
/-- counts of flags, sums -/
def cnt (r : Nat → Int32) : Nat → Nat
  | 0 => 0
  | n + 1 => cnt r n + (if r n = 0 then 0 else 1)
theorem cnt_le (r : Nat → Int32) : ∀ n, cnt r n ≤ n := by
  intro n
  induction n with
  | zero => exact Nat.le_refl _
  | succ n ih =>
    unfold cnt
    by_cases c : r n = 0
    · rw [if_pos c]; omega
    · rw [if_neg c]; omega
theorem cnt_mono (r : Nat → Int32) {m n : Nat} (h : m ≤ n) : cnt r m ≤ cnt r n := by
  induction n with
  | zero => obtain rfl : m = 0 := by omega
            exact Nat.le_refl _
  | succ n ih =>
    rcases Nat.lt_or_ge m (n + 1) with q | q
    · have := ih (by omega)
      show cnt r m ≤ cnt r n + (if r n = 0 then 0 else 1)
      omega
    · obtain rfl : m = n + 1 := by omega
      exact Nat.le_refl _
theorem cnt_congr {r s : Nat → Int32} : ∀ n, (∀ k, k < n → r k = s k) → cnt r n = cnt s n := by
  intro n
  induction n with
  | zero => intro _; rfl
  | succ n ih =>
    intro h
    unfold cnt
    rw [ih (fun k hk => h k (by omega)), h n (by omega)]
def sm (f : Nat → Nat) : Nat → Nat
  | 0 => 0
  | n + 1 => sm f n + f n
theorem sm_congr {f g : Nat → Nat} : ∀ n, (∀ k, k < n → f k = g k) → sm f n = sm g n := by
  intro n
  induction n with
  | zero => intro _; rfl
  | succ n ih =>
    intro h
    unfold sm
    rw [ih (fun k hk => h k (by omega)), h n (by omega)]
theorem sm_mono (f : Nat → Nat) {m n : Nat} (h : m ≤ n) : sm f m ≤ sm f n := by
  induction n with
  | zero => obtain rfl : m = 0 := by omega
            exact Nat.le_refl _
  | succ n ih =>
    rcases Nat.lt_or_ge m (n + 1) with q | q
    · have := ih (by omega)
      show sm f m ≤ sm f n + f n
      omega
    · obtain rfl : m = n + 1 := by omega
      exact Nat.le_refl _
theorem wp_loop (g : hp) : ∀ m j, j ≤ 32 → 32 - j < m → f_X6_writtenPages_4 m g (nI (cnt (g 9) j)) (nI j) = some (nI (cnt (g 9) 32)) := by
  intro m
  induction m with
  | zero => intro j h1 h2; omega
  | succ m ih =>
    intro j h1 h2
    rw [f_X6_writtenPages_4]
    by_cases c : 32 ≤ j
    · obtain rfl : j = 32 := by omega
      rw [if_pos (by decide)]
    · rw [if_neg (show ¬ (32 : Int32) ≤ nI j from nI_ge (b := 32) (by omega) (by decide)), gd_pos (nI_in (by omega) (by decide)), nI_clamp (by omega), nI_1]
      simp only [gl]
      by_cases z : g 9 j = 0
      · rw [if_pos z]
        have e : nI (cnt (g 9) j) + 0 = nI (cnt (g 9) (j + 1)) := by
          show nI (cnt (g 9) j) + nI 0 = nI (cnt (g 9) j + if g 9 j = 0 then 0 else 1)
          rw [if_pos z, nI_add]
        rw [e]
        exact ih (j + 1) (by omega) (by omega)
      · rw [if_neg z]
        have e : nI (cnt (g 9) j) + 1 = nI (cnt (g 9) (j + 1)) := by
          show nI (cnt (g 9) j) + nI 1 = nI (cnt (g 9) j + if g 9 j = 0 then 0 else 1)
          rw [if_neg z, nI_add]
        rw [e]
        exact ih (j + 1) (by omega) (by omega)
theorem wp_model (g : hp) : f_X6_writtenPages g = some (nI (cnt (g 9) 32)) := wp_loop g 1000 0 (by omega) (by omega)
theorem ap_loop {g : hp} {pg : Nat → Nat} {K : Nat} (hK : K ≤ 40) (h17 : g 0 17 = nI K) (h8 : ∀ k, k < K → g 8 k = nI (pg k)) : ∀ m j, j ≤ K → K - j < m → f_X6_allPages_4 m g (nI (sm pg j)) (nI j) = some (nI (sm pg K)) := by
  intro m
  induction m with
  | zero => intro j h1 h2; omega
  | succ m ih =>
    intro j h1 h2
    rw [f_X6_allPages_4, h17]
    by_cases c : K ≤ j
    · obtain rfl : j = K := by omega
      rw [if_pos (nI_le (Nat.le_refl _) (by omega))]
    · rw [if_neg (nI_ge (by omega) (by omega)), gd_pos (nI_in (by omega) (by decide)), nI_clamp (by omega), nI_1, h8 j (by omega), nI_add]
      simp only [gl]
      exact ih (j + 1) (by omega) (by omega)
theorem ap_model {g : hp} {pg : Nat → Nat} {K : Nat} (hK : K ≤ 40) (h17 : g 0 17 = nI K) (h8 : ∀ k, k < K → g 8 k = nI (pg k)) : f_X6_allPages g = some (nI (sm pg K)) := ap_loop hK h17 h8 1000 0 (Nat.zero_le _) (by omega)
end PU
end
section
/-! THE PURE SIDE, 7: Integer.bitCount counts the bits -/
section PU
def uN32 (x : Int32) : Nat := x.toBitVec.toNat
theorem uN32_lt (x : Int32) : uN32 x < 4294967296 := x.toBitVec.isLt
theorem uN32_and (x y : Int32) : uN32 (x &&& y) = uN32 x &&& uN32 y := BitVec.toNat_and _ _
theorem uN32_add (x y : Int32) : uN32 (x + y) = (uN32 x + uN32 y) % 4294967296 := BitVec.toNat_add _ _
theorem uN32_sub (x y : Int32) : uN32 (x - y) = (4294967296 - uN32 y + uN32 x) % 4294967296 := BitVec.toNat_sub _ _
theorem uN32_ush (x s : Int32) (k : Nat) (hs : ((s.toUInt32 &&& Int32.toUInt32 31).toBitVec % 32).toNat = k) : uN32 (x.toUInt32 >>> (s.toUInt32 &&& Int32.toUInt32 31)).toInt32 = uN32 x / 2 ^ k := pk_ushr x s k hs
theorem uN32_nI (x : Int32) : x = nI (uN32 x) := by
  apply Int32.toBitVec_inj.mp
  show x.toBitVec = (Int32.ofNat x.toBitVec.toNat).toBitVec
  simp [Int32.ofNat]
theorem land8 (x m : Nat) : x &&& m = ((x % 256) &&& (m % 256)) + 256 * ((x / 256) &&& (m / 256)) := by
  have h1 : (x &&& m) % 2 ^ 8 = (x % 2 ^ 8) &&& (m % 2 ^ 8) := Nat.and_mod_two_pow
  have h2 : (x &&& m) / 2 ^ 8 = (x / 2 ^ 8) &&& (m / 2 ^ 8) := Nat.and_div_two_pow
  have h3 := Nat.mod_add_div (x &&& m) 256
  rw [show (2 : Nat) ^ 8 = 256 from rfl] at h1 h2
  rw [← h1, ← h2]
  exact h3.symm
theorem land32 (x : Nat) (a : Nat) (ha : a < 256) : x &&& (a + 256 * (a + 256 * (a + 256 * a))) = ((x % 256) &&& a) + 256 * (((x / 256 % 256) &&& a) + 256 * (((x / 65536 % 256) &&& a) + 256 * ((x / 16777216) &&& a))) := by
  rw [land8 x, show (a + 256 * (a + 256 * (a + 256 * a))) % 256 = a by omega, show (a + 256 * (a + 256 * (a + 256 * a))) / 256 = a + 256 * (a + 256 * a) by omega]
  rw [land8 (x / 256), show (a + 256 * (a + 256 * a)) % 256 = a by omega, show (a + 256 * (a + 256 * a)) / 256 = a + 256 * a by omega]
  rw [land8 (x / 256 / 256), show (a + 256 * a) % 256 = a by omega, show (a + 256 * a) / 256 = a by omega]
  rw [show x / 256 / 256 = x / 65536 by omega, show x / 65536 / 256 = x / 16777216 by omega]
theorem m85 : ∀ a, a < 128 → ∀ t, t < 2 → (a + 128 * t) &&& 85 = a &&& 85 := by decide +kernel
theorem m51 : ∀ a, a < 64 → ∀ t, t < 4 → (a + 64 * t) &&& 51 = a &&& 51 := by decide +kernel
def q1 (b : Nat) : Nat := b - ((b / 2) &&& 85)
def q2 (b : Nat) : Nat := (q1 b &&& 51) + ((q1 b / 4) &&& 51)
def q3 (b : Nat) : Nat := (q2 b + q2 b / 16) % 16
theorem q_ok : ∀ b, b < 256 → ((b / 2) &&& 85) ≤ b ∧ q1 b < 256 ∧ q2 b < 69 ∧ q3 b = b % 2 + b / 2 % 2 + b / 4 % 2 + b / 8 % 2 + b / 16 % 2 + b / 32 % 2 + b / 64 % 2 + b / 128 % 2 := by decide +kernel
theorem q_le : ∀ b, b < 256 → ((b / 2) &&& 85) ≤ b ∧ q1 b < 256 ∧ q2 b < 69 ∧ q3 b ≤ 8 ∧ q2 b % 16 ≤ 4 := by decide +kernel
theorem by4 {N b0 b1 b2 b3 : Nat} (h0 : b0 < 256) (h1 : b1 < 256) (h2 : b2 < 256) (h3 : b3 < 256) (hN : N = b0 + 256 * (b1 + 256 * (b2 + 256 * b3))) : N % 256 = b0 ∧ N / 256 % 256 = b1 ∧ N / 65536 % 256 = b2 ∧ N / 16777216 = b3 := by omega
theorem by4h {N b0 b1 b2 b3 : Nat} (h0 : b0 < 256) (h1 : b1 < 256) (h2 : b2 < 256) (h3 : b3 < 256) (hN : N = b0 + 256 * (b1 + 256 * (b2 + 256 * b3))) : N / 2 % 256 = b0 / 2 + 128 * (b1 % 2) ∧ N / 2 / 256 % 256 = b1 / 2 + 128 * (b2 % 2) ∧ N / 2 / 65536 % 256 = b2 / 2 + 128 * (b3 % 2) ∧ N / 2 / 16777216 = b3 / 2 := by
  refine ⟨by omega, by omega, by omega, by omega⟩
theorem by4q {N b0 b1 b2 b3 : Nat} (h0 : b0 < 256) (h1 : b1 < 256) (h2 : b2 < 256) (h3 : b3 < 256) (hN : N = b0 + 256 * (b1 + 256 * (b2 + 256 * b3))) : N / 4 % 256 = b0 / 4 + 64 * (b1 % 4) ∧ N / 4 / 256 % 256 = b1 / 4 + 64 * (b2 % 4) ∧ N / 4 / 65536 % 256 = b2 / 4 + 64 * (b3 % 4) ∧ N / 4 / 16777216 = b3 / 4 := by
  refine ⟨by omega, by omega, by omega, by omega⟩
theorem pg1 {N b0 b1 b2 b3 y0 y1 y2 y3 : Nat} (h0 : b0 < 256) (h1 : b1 < 256) (h2 : b2 < 256) (h3 : b3 < 256) (hN : N = b0 + 256 * (b1 + 256 * (b2 + 256 * b3))) (k0 : y0 ≤ b0) (k1 : y1 ≤ b1) (k2 : y2 ≤ b2) (k3 : y3 ≤ b3) : (4294967296 - (y0 + 256 * (y1 + 256 * (y2 + 256 * y3))) + N) % 4294967296 = (b0 - y0) + 256 * ((b1 - y1) + 256 * ((b2 - y2) + 256 * (b3 - y3))) := by omega
theorem pg2 {u0 u1 u2 u3 v0 v1 v2 v3 : Nat} (h0 : u0 + v0 < 69) (h1 : u1 + v1 < 69) (h2 : u2 + v2 < 69) (h3 : u3 + v3 < 69) : ((u0 + 256 * (u1 + 256 * (u2 + 256 * u3))) + (v0 + 256 * (v1 + 256 * (v2 + 256 * v3)))) % 4294967296 = (u0 + v0) + 256 * ((u1 + v1) + 256 * ((u2 + v2) + 256 * (u3 + v3))) := by omega
theorem pg3 {x y s0 s1 s2 s3 : Nat} (h0 : s0 < 69) (h1 : s1 < 69) (h2 : s2 < 69) (h3 : s3 < 69) (k1 : s1 % 16 ≤ 4) (k2 : s2 % 16 ≤ 4) (k3 : s3 % 16 ≤ 4) (hx : x = s0 + 256 * (s1 + 256 * (s2 + 256 * s3))) (hy : y = (x + x / 16) % 4294967296) : y % 256 % 16 = (s0 + s0 / 16) % 16 ∧ y / 256 % 256 % 16 = (s1 + s1 / 16) % 16 ∧ y / 65536 % 256 % 16 = (s2 + s2 / 16) % 16 ∧ y / 16777216 % 16 = (s3 + s3 / 16) % 16 := by
  have e : y = (s0 + s0 / 16 + 16 * (s1 % 16)) + 256 * ((s1 + s1 / 16 + 16 * (s2 % 16)) + 256 * ((s2 + s2 / 16 + 16 * (s3 % 16)) + 256 * (s3 + s3 / 16))) := by omega
  obtain ⟨a, b, c, d⟩ := by4 (b0 := s0 + s0 / 16 + 16 * (s1 % 16)) (b1 := s1 + s1 / 16 + 16 * (s2 % 16)) (b2 := s2 + s2 / 16 + 16 * (s3 % 16)) (b3 := s3 + s3 / 16) (by omega) (by omega) (by omega) (by omega) e
  rw [a, b, c, d]
  clear a b c d e hx hy
  refine ⟨by omega, by omega, by omega, rfl⟩
theorem pg4 {c0 c1 c2 c3 x4 x5 : Nat} (h0 : c0 ≤ 8) (h1 : c1 ≤ 8) (h2 : c2 ≤ 8) (h3 : c3 ≤ 8) (e4 : x4 = ((c0 + 256 * (c1 + 256 * (c2 + 256 * c3))) + (c0 + 256 * (c1 + 256 * (c2 + 256 * c3))) / 256) % 4294967296) (e5 : x5 = (x4 + x4 / 65536) % 4294967296) : x5 % 64 = c0 + c1 + c2 + c3 := by
  have f4 : x4 = (c0 + c1) + 256 * ((c1 + c2) + 256 * ((c2 + c3) + 256 * c3)) := by omega
  have f5 : x4 / 65536 = (c2 + c3) + 256 * c3 := by omega
  rw [f5, f4] at e5
  omega
theorem pop32 {N b0 b1 b2 b3 : Nat} (h0 : b0 < 256) (h1 : b1 < 256) (h2 : b2 < 256) (h3 : b3 < 256) (hN : N = b0 + 256 * (b1 + 256 * (b2 + 256 * b3))) {x1 x2 x3 x4 x5 x6 : Nat}
    (e1 : x1 = (4294967296 - ((N / 2) &&& 1431655765) + N) % 4294967296) (e2 : x2 = ((x1 &&& 858993459) + ((x1 / 4) &&& 858993459)) % 4294967296) (e3 : x3 = ((x2 + x2 / 16) % 4294967296) &&& 252645135) (e4 : x4 = (x3 + x3 / 256) % 4294967296) (e5 : x5 = (x4 + x4 / 65536) % 4294967296) (e6 : x6 = x5 &&& 63) : x6 = q3 b0 + q3 b1 + q3 b2 + q3 b3 := by
  obtain ⟨a0, a1, a2, a3, a4⟩ := q_le b0 h0
  obtain ⟨b0', b1', b2', b3', b4'⟩ := q_le b1 h1
  obtain ⟨c0, c1, c2, c3, c4⟩ := q_le b2 h2
  obtain ⟨d0, d1, d2, d3, d4⟩ := q_le b3 h3
  have f1 : (N / 2) &&& 1431655765 = ((b0 / 2) &&& 85) + 256 * (((b1 / 2) &&& 85) + 256 * (((b2 / 2) &&& 85) + 256 * ((b3 / 2) &&& 85))) := by
    obtain ⟨z0, z1, z2, z3⟩ := by4h h0 h1 h2 h3 hN
    rw [show (1431655765 : Nat) = 85 + 256 * (85 + 256 * (85 + 256 * 85)) from rfl, land32 _ 85 (by decide), z0, z1, z2, z3]
    rw [m85 _ (by omega) _ (by omega), m85 _ (by omega) _ (by omega), m85 _ (by omega) _ (by omega)]
  have g1 : x1 = q1 b0 + 256 * (q1 b1 + 256 * (q1 b2 + 256 * q1 b3)) := by
    rw [e1, f1]
    exact pg1 h0 h1 h2 h3 hN a0 b0' c0 d0
  have f2 : x1 &&& 858993459 = (q1 b0 &&& 51) + 256 * ((q1 b1 &&& 51) + 256 * ((q1 b2 &&& 51) + 256 * (q1 b3 &&& 51))) := by
    obtain ⟨z0, z1, z2, z3⟩ := by4 a1 b1' c1 d1 g1
    rw [show (858993459 : Nat) = 51 + 256 * (51 + 256 * (51 + 256 * 51)) from rfl, land32 _ 51 (by decide), z0, z1, z2, z3]
  have f3 : (x1 / 4) &&& 858993459 = ((q1 b0 / 4) &&& 51) + 256 * (((q1 b1 / 4) &&& 51) + 256 * (((q1 b2 / 4) &&& 51) + 256 * ((q1 b3 / 4) &&& 51))) := by
    obtain ⟨z0, z1, z2, z3⟩ := by4q a1 b1' c1 d1 g1
    rw [show (858993459 : Nat) = 51 + 256 * (51 + 256 * (51 + 256 * 51)) from rfl, land32 _ 51 (by decide), z0, z1, z2, z3]
    rw [m51 _ (by omega) _ (by omega), m51 _ (by omega) _ (by omega), m51 _ (by omega) _ (by omega)]
  have g2 : x2 = q2 b0 + 256 * (q2 b1 + 256 * (q2 b2 + 256 * q2 b3)) := by
    rw [e2, f2, f3]
    exact pg2 a2 b2' c2 d2
  have g3 : x3 = q3 b0 + 256 * (q3 b1 + 256 * (q3 b2 + 256 * q3 b3)) := by
    rw [e3, show (252645135 : Nat) = 15 + 256 * (15 + 256 * (15 + 256 * 15)) from rfl, land32 _ 15 (by decide)]
    have w : ∀ z : Nat, z &&& 15 = z % 16 := fun z => Nat.and_two_pow_sub_one_eq_mod z 4
    obtain ⟨z0, z1, z2, z3⟩ := pg3 a2 b2' c2 d2 b4' c4 d4 g2 rfl
    rw [w, w, w, w, z0, z1, z2, z3]
    rfl
  rw [g3] at e4
  rw [e6, show x5 &&& 63 = x5 % 64 from Nat.and_two_pow_sub_one_eq_mod x5 6]
  exact pg4 a3 b3' c3 d3 e4 e5
theorem bit_if (w : Int32) (k : Nat) (hk : k < 32) : (if bitv w k = 0 then 0 else 1) = uN32 w / 2 ^ k % 2 := by
  unfold bitv
  have h : w.toBitVec.getLsbD k = (uN32 w).testBit k := rfl
  rw [h, Nat.testBit_eq_decide_div_mod_eq]
  have := Nat.mod_two_eq_zero_or_one (uN32 w / 2 ^ k)
  rcases this with e | e
  · simp [e]
  · simp [e, hk]
theorem bz0 (N : Nat) : N / 2 ^ 0 % 2 = N % 256 % 2 := by
  simp only [Nat.reducePow] <;> omega
theorem bz1 (N : Nat) : N / 2 ^ 1 % 2 = N % 256 / 2 % 2 := by
  simp only [Nat.reducePow] <;> omega
theorem bz2 (N : Nat) : N / 2 ^ 2 % 2 = N % 256 / 4 % 2 := by
  simp only [Nat.reducePow] <;> omega
theorem bz3 (N : Nat) : N / 2 ^ 3 % 2 = N % 256 / 8 % 2 := by
  simp only [Nat.reducePow] <;> omega
theorem bz4 (N : Nat) : N / 2 ^ 4 % 2 = N % 256 / 16 % 2 := by
  simp only [Nat.reducePow] <;> omega
theorem bz5 (N : Nat) : N / 2 ^ 5 % 2 = N % 256 / 32 % 2 := by
  simp only [Nat.reducePow] <;> omega
theorem bz6 (N : Nat) : N / 2 ^ 6 % 2 = N % 256 / 64 % 2 := by
  simp only [Nat.reducePow] <;> omega
theorem bz7 (N : Nat) : N / 2 ^ 7 % 2 = N % 256 / 128 % 2 := by
  simp only [Nat.reducePow] <;> omega
theorem bz8 (N : Nat) : N / 2 ^ 8 % 2 = N / 256 % 256 % 2 := by
  simp only [Nat.reducePow] <;> omega
theorem bz9 (N : Nat) : N / 2 ^ 9 % 2 = N / 256 % 256 / 2 % 2 := by
  simp only [Nat.reducePow] <;> omega
theorem bz10 (N : Nat) : N / 2 ^ 10 % 2 = N / 256 % 256 / 4 % 2 := by
  simp only [Nat.reducePow] <;> omega
theorem bz11 (N : Nat) : N / 2 ^ 11 % 2 = N / 256 % 256 / 8 % 2 := by
  simp only [Nat.reducePow] <;> omega
theorem bz12 (N : Nat) : N / 2 ^ 12 % 2 = N / 256 % 256 / 16 % 2 := by
  simp only [Nat.reducePow] <;> omega
theorem bz13 (N : Nat) : N / 2 ^ 13 % 2 = N / 256 % 256 / 32 % 2 := by
  simp only [Nat.reducePow] <;> omega
theorem bz14 (N : Nat) : N / 2 ^ 14 % 2 = N / 256 % 256 / 64 % 2 := by
  simp only [Nat.reducePow] <;> omega
theorem bz15 (N : Nat) : N / 2 ^ 15 % 2 = N / 256 % 256 / 128 % 2 := by
  simp only [Nat.reducePow] <;> omega
theorem bz16 (N : Nat) : N / 2 ^ 16 % 2 = N / 65536 % 256 % 2 := by
  simp only [Nat.reducePow] <;> omega
theorem bz17 (N : Nat) : N / 2 ^ 17 % 2 = N / 65536 % 256 / 2 % 2 := by
  simp only [Nat.reducePow] <;> omega
theorem bz18 (N : Nat) : N / 2 ^ 18 % 2 = N / 65536 % 256 / 4 % 2 := by
  simp only [Nat.reducePow] <;> omega
theorem bz19 (N : Nat) : N / 2 ^ 19 % 2 = N / 65536 % 256 / 8 % 2 := by
  simp only [Nat.reducePow] <;> omega
theorem bz20 (N : Nat) : N / 2 ^ 20 % 2 = N / 65536 % 256 / 16 % 2 := by
  simp only [Nat.reducePow] <;> omega
theorem bz21 (N : Nat) : N / 2 ^ 21 % 2 = N / 65536 % 256 / 32 % 2 := by
  simp only [Nat.reducePow] <;> omega
theorem bz22 (N : Nat) : N / 2 ^ 22 % 2 = N / 65536 % 256 / 64 % 2 := by
  simp only [Nat.reducePow] <;> omega
theorem bz23 (N : Nat) : N / 2 ^ 23 % 2 = N / 65536 % 256 / 128 % 2 := by
  simp only [Nat.reducePow] <;> omega
theorem bz24 (N : Nat) : N / 2 ^ 24 % 2 = N / 16777216 % 2 := by
  simp only [Nat.reducePow] <;> omega
theorem bz25 (N : Nat) : N / 2 ^ 25 % 2 = N / 16777216 / 2 % 2 := by
  simp only [Nat.reducePow] <;> omega
theorem bz26 (N : Nat) : N / 2 ^ 26 % 2 = N / 16777216 / 4 % 2 := by
  simp only [Nat.reducePow] <;> omega
theorem bz27 (N : Nat) : N / 2 ^ 27 % 2 = N / 16777216 / 8 % 2 := by
  simp only [Nat.reducePow] <;> omega
theorem bz28 (N : Nat) : N / 2 ^ 28 % 2 = N / 16777216 / 16 % 2 := by
  simp only [Nat.reducePow] <;> omega
theorem bz29 (N : Nat) : N / 2 ^ 29 % 2 = N / 16777216 / 32 % 2 := by
  simp only [Nat.reducePow] <;> omega
theorem bz30 (N : Nat) : N / 2 ^ 30 % 2 = N / 16777216 / 64 % 2 := by
  simp only [Nat.reducePow] <;> omega
theorem bz31 (N : Nat) : N / 2 ^ 31 % 2 = N / 16777216 / 128 % 2 := by
  simp only [Nat.reducePow] <;> omega
theorem cnt_bytes (w : Int32) : cnt (bitv w) 32 = q3 (uN32 w % 256) + q3 (uN32 w / 256 % 256) + q3 (uN32 w / 65536 % 256) + q3 (uN32 w / 16777216) := by
  have hN := uN32_lt w
  rw [(q_ok (uN32 w % 256) (by omega)).2.2.2, (q_ok (uN32 w / 256 % 256) (by omega)).2.2.2, (q_ok (uN32 w / 65536 % 256) (by omega)).2.2.2, (q_ok (uN32 w / 16777216) (by omega)).2.2.2]
  simp only [cnt]
  rw [bit_if w 0 (by decide), bit_if w 1 (by decide), bit_if w 2 (by decide), bit_if w 3 (by decide), bit_if w 4 (by decide), bit_if w 5 (by decide), bit_if w 6 (by decide), bit_if w 7 (by decide), bit_if w 8 (by decide), bit_if w 9 (by decide), bit_if w 10 (by decide), bit_if w 11 (by decide), bit_if w 12 (by decide), bit_if w 13 (by decide), bit_if w 14 (by decide), bit_if w 15 (by decide), bit_if w 16 (by decide), bit_if w 17 (by decide), bit_if w 18 (by decide), bit_if w 19 (by decide), bit_if w 20 (by decide), bit_if w 21 (by decide), bit_if w 22 (by decide), bit_if w 23 (by decide), bit_if w 24 (by decide), bit_if w 25 (by decide), bit_if w 26 (by decide), bit_if w 27 (by decide), bit_if w 28 (by decide), bit_if w 29 (by decide), bit_if w 30 (by decide), bit_if w 31 (by decide)]
  generalize uN32 w = N
  rw [bz0, bz1, bz2, bz3, bz4, bz5, bz6, bz7, bz8, bz9, bz10, bz11, bz12, bz13, bz14, bz15, bz16, bz17, bz18, bz19, bz20, bz21, bz22, bz23, bz24, bz25, bz26, bz27, bz28, bz29, bz30, bz31]
  simp only [Nat.add_assoc, Nat.zero_add]
theorem bitCount_ok (w : Int32) : f_J6_bitCount_0f7a4 w = nI (cnt (bitv w) 32) := by
  have hN := uN32_lt w
  rw [cnt_bytes]
  unfold f_J6_bitCount_0f7a4
  simp only [gl]
  generalize hy1 : w - (((w.toUInt32 >>> ((1 : Int32).toUInt32 &&& Int32.toUInt32 31)).toInt32) &&& 1431655765) = y1
  generalize hy2 : (y1 &&& 858993459) + (((y1.toUInt32 >>> ((2 : Int32).toUInt32 &&& Int32.toUInt32 31)).toInt32) &&& 858993459) = y2
  generalize hy3 : (y2 + ((y2.toUInt32 >>> ((4 : Int32).toUInt32 &&& Int32.toUInt32 31)).toInt32)) &&& 252645135 = y3
  generalize hy4 : y3 + ((y3.toUInt32 >>> ((8 : Int32).toUInt32 &&& Int32.toUInt32 31)).toInt32) = y4
  generalize hy5 : y4 + ((y4.toUInt32 >>> ((16 : Int32).toUInt32 &&& Int32.toUInt32 31)).toInt32) = y5
  have e1 : uN32 y1 = (4294967296 - ((uN32 w / 2) &&& 1431655765) + uN32 w) % 4294967296 := by
    rw [← hy1, uN32_sub, uN32_and, uN32_ush _ 1 1 (by decide), show uN32 1431655765 = 1431655765 from by decide +kernel]
  have e2 : uN32 y2 = ((uN32 y1 &&& 858993459) + ((uN32 y1 / 4) &&& 858993459)) % 4294967296 := by
    rw [← hy2, uN32_add, uN32_and, uN32_and, uN32_ush _ 2 2 (by decide), show uN32 858993459 = 858993459 from by decide +kernel]
  have e3 : uN32 y3 = ((uN32 y2 + uN32 y2 / 16) % 4294967296) &&& 252645135 := by
    rw [← hy3, uN32_and, uN32_add, uN32_ush _ 4 4 (by decide), show uN32 252645135 = 252645135 from by decide +kernel]
  have e4 : uN32 y4 = (uN32 y3 + uN32 y3 / 256) % 4294967296 := by
    rw [← hy4, uN32_add, uN32_ush _ 8 8 (by decide)]
  have e5 : uN32 y5 = (uN32 y4 + uN32 y4 / 65536) % 4294967296 := by
    rw [← hy5, uN32_add, uN32_ush _ 16 16 (by decide)]
  have e6 : uN32 (y5 &&& 63) = uN32 y5 &&& 63 := by
    rw [uN32_and, show uN32 63 = 63 from by decide +kernel]
  have hp := pop32 (N := uN32 w) (b0 := uN32 w % 256) (b1 := uN32 w / 256 % 256) (b2 := uN32 w / 65536 % 256) (b3 := uN32 w / 16777216) (by omega) (by omega) (by omega) (by omega) (by omega) e1 e2 e3 e4 e5 e6
  rw [← hp]
  exact uN32_nI _
end PU
end
