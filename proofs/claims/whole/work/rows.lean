section
-- ===== PART A: goes FIRST, ahead of the names: the tables' words, and 'selects' of the private methods out of them =====
/-- a private method of a class that the tables say can be made, by its rows of tables_1 -/
def lw_okq (q : MethodName × Nat) : Prop := (q.1.cls ≠ "java/lang/invoke/MethodHandle" ∧ q.1.cls ≠ "java/lang/invoke/VarHandle") ∧ Cond.instantiable q.1.cls q.2 ∈ tables_1 ∧ Cond.privateMethod q.1 ∈ tables_1 ∧ Cond.instanceMethod q.1 ∈ tables_1
theorem lw_p0 : lw_okq (⟨"KeyholeNews$Text", "fits", "(I)Z"⟩, 2) := ⟨⟨by decide +kernel, by decide +kernel⟩, List.mem_of_getElem? (i := 20) (by decide +kernel), List.mem_of_getElem? (i := 214) (by decide +kernel), List.mem_of_getElem? (i := 215) (by decide +kernel)⟩
theorem lw_p1 : lw_okq (⟨"KeyholeNews$Text", "isDigit", "(II)Z"⟩, 2) := ⟨⟨by decide +kernel, by decide +kernel⟩, List.mem_of_getElem? (i := 20) (by decide +kernel), List.mem_of_getElem? (i := 222) (by decide +kernel), List.mem_of_getElem? (i := 223) (by decide +kernel)⟩
theorem lw_p2 : lw_okq (⟨"KeyholeNews", "act", "(I)I"⟩, 11) := ⟨⟨by decide +kernel, by decide +kernel⟩, List.mem_of_getElem? (i := 12) (by decide +kernel), List.mem_of_getElem? (i := 298) (by decide +kernel), List.mem_of_getElem? (i := 299) (by decide +kernel)⟩
theorem lw_p3 : lw_okq (⟨"KeyholeNews$Stand", "newsBit", "()I"⟩, 7) := ⟨⟨by decide +kernel, by decide +kernel⟩, List.mem_of_getElem? (i := 61) (by decide +kernel), List.mem_of_getElem? (i := 319) (by decide +kernel), List.mem_of_getElem? (i := 320) (by decide +kernel)⟩
theorem lw_p4 : lw_okq (⟨"KeyholeNews$Search", "firstTurnTo", "(LKeyholeNews$Street;II)I"⟩, 2) := ⟨⟨by decide +kernel, by decide +kernel⟩, List.mem_of_getElem? (i := 120) (by decide +kernel), List.mem_of_getElem? (i := 368) (by decide +kernel), List.mem_of_getElem? (i := 369) (by decide +kernel)⟩
theorem lw_p5 : lw_okq (⟨"KeyholeNews", "bestWithKeys", "(II)I"⟩, 11) := ⟨⟨by decide +kernel, by decide +kernel⟩, List.mem_of_getElem? (i := 12) (by decide +kernel), List.mem_of_getElem? (i := 387) (by decide +kernel), List.mem_of_getElem? (i := 388) (by decide +kernel)⟩
theorem lw_p6 : lw_okq (⟨"KeyholeNews", "bestAmong", "(I)I"⟩, 11) := ⟨⟨by decide +kernel, by decide +kernel⟩, List.mem_of_getElem? (i := 12) (by decide +kernel), List.mem_of_getElem? (i := 412) (by decide +kernel), List.mem_of_getElem? (i := 413) (by decide +kernel)⟩
theorem lw_p7 : lw_okq (⟨"KeyholeNews", "isContent", "(II)Z"⟩, 11) := ⟨⟨by decide +kernel, by decide +kernel⟩, List.mem_of_getElem? (i := 12) (by decide +kernel), List.mem_of_getElem? (i := 447) (by decide +kernel), List.mem_of_getElem? (i := 448) (by decide +kernel)⟩
theorem lw_p8 : lw_okq (⟨"KeyholeNews", "restJoy", "(II)I"⟩, 11) := ⟨⟨by decide +kernel, by decide +kernel⟩, List.mem_of_getElem? (i := 12) (by decide +kernel), List.mem_of_getElem? (i := 451) (by decide +kernel), List.mem_of_getElem? (i := 452) (by decide +kernel)⟩
theorem lw_p9 : lw_okq (⟨"KeyholeNews", "gatherGains", "(II)I"⟩, 11) := ⟨⟨by decide +kernel, by decide +kernel⟩, List.mem_of_getElem? (i := 12) (by decide +kernel), List.mem_of_getElem? (i := 459) (by decide +kernel), List.mem_of_getElem? (i := 460) (by decide +kernel)⟩
theorem lw_p10 : lw_okq (⟨"KeyholeNews", "joyOf", "(II)I"⟩, 11) := ⟨⟨by decide +kernel, by decide +kernel⟩, List.mem_of_getElem? (i := 12) (by decide +kernel), List.mem_of_getElem? (i := 463) (by decide +kernel), List.mem_of_getElem? (i := 464) (by decide +kernel)⟩
theorem lw_p11 : lw_okq (⟨"KeyholeNews", "playRound", "(I)V"⟩, 11) := ⟨⟨by decide +kernel, by decide +kernel⟩, List.mem_of_getElem? (i := 12) (by decide +kernel), List.mem_of_getElem? (i := 481) (by decide +kernel), List.mem_of_getElem? (i := 482) (by decide +kernel)⟩
theorem lw_p12 : lw_okq (⟨"KeyholeNewsModel", "readStreet", "()I"⟩, 30) := ⟨⟨by decide +kernel, by decide +kernel⟩, List.mem_of_getElem? (i := 493) (by decide +kernel), List.mem_of_getElem? (i := 607) (by decide +kernel), List.mem_of_getElem? (i := 608) (by decide +kernel)⟩
theorem lw_p13 : lw_okq (⟨"KeyholeNewsModel", "figure", "(I)I"⟩, 30) := ⟨⟨by decide +kernel, by decide +kernel⟩, List.mem_of_getElem? (i := 493) (by decide +kernel), List.mem_of_getElem? (i := 611) (by decide +kernel), List.mem_of_getElem? (i := 612) (by decide +kernel)⟩
theorem lw_p14 : lw_okq (⟨"KeyholeNewsModel", "readHouse", "()Z"⟩, 30) := ⟨⟨by decide +kernel, by decide +kernel⟩, List.mem_of_getElem? (i := 493) (by decide +kernel), List.mem_of_getElem? (i := 615) (by decide +kernel), List.mem_of_getElem? (i := 616) (by decide +kernel)⟩
theorem lw_p15 : lw_okq (⟨"KeyholeNewsModel", "noHouse", "(I)Z"⟩, 30) := ⟨⟨by decide +kernel, by decide +kernel⟩, List.mem_of_getElem? (i := 493) (by decide +kernel), List.mem_of_getElem? (i := 631) (by decide +kernel), List.mem_of_getElem? (i := 632) (by decide +kernel)⟩
def lw_privs_1 : List (MethodName × Nat) := [(⟨"KeyholeNews$Text", "fits", "(I)Z"⟩, 2), (⟨"KeyholeNews$Text", "isDigit", "(II)Z"⟩, 2), (⟨"KeyholeNews", "act", "(I)I"⟩, 11), (⟨"KeyholeNews$Stand", "newsBit", "()I"⟩, 7), (⟨"KeyholeNews$Search", "firstTurnTo", "(LKeyholeNews$Street;II)I"⟩, 2), (⟨"KeyholeNews", "bestWithKeys", "(II)I"⟩, 11), (⟨"KeyholeNews", "bestAmong", "(I)I"⟩, 11), (⟨"KeyholeNews", "isContent", "(II)Z"⟩, 11), (⟨"KeyholeNews", "restJoy", "(II)I"⟩, 11), (⟨"KeyholeNews", "gatherGains", "(II)I"⟩, 11), (⟨"KeyholeNews", "joyOf", "(II)I"⟩, 11), (⟨"KeyholeNews", "playRound", "(I)V"⟩, 11), (⟨"KeyholeNewsModel", "readStreet", "()I"⟩, 30), (⟨"KeyholeNewsModel", "figure", "(I)I"⟩, 30), (⟨"KeyholeNewsModel", "readHouse", "()Z"⟩, 30), (⟨"KeyholeNewsModel", "noHouse", "(I)Z"⟩, 30)]
theorem lw_r1 : ∀ q ∈ lw_privs_1, lw_okq q := List.forall_mem_cons.mpr ⟨lw_p0, List.forall_mem_cons.mpr ⟨lw_p1, List.forall_mem_cons.mpr ⟨lw_p2, List.forall_mem_cons.mpr ⟨lw_p3, List.forall_mem_cons.mpr ⟨lw_p4, List.forall_mem_cons.mpr ⟨lw_p5, List.forall_mem_cons.mpr ⟨lw_p6, List.forall_mem_cons.mpr ⟨lw_p7, List.forall_mem_cons.mpr ⟨lw_p8, List.forall_mem_cons.mpr ⟨lw_p9, List.forall_mem_cons.mpr ⟨lw_p10, List.forall_mem_cons.mpr ⟨lw_p11, List.forall_mem_cons.mpr ⟨lw_p12, List.forall_mem_cons.mpr ⟨lw_p13, List.forall_mem_cons.mpr ⟨lw_p14, List.forall_mem_cons.mpr ⟨lw_p15, fun _ h => absurd h List.not_mem_nil⟩⟩⟩⟩⟩⟩⟩⟩⟩⟩⟩⟩⟩⟩⟩⟩
theorem lw_p16 : lw_okq (⟨"KeyholeNewsModel", "sightOf", "([III)I"⟩, 30) := ⟨⟨by decide +kernel, by decide +kernel⟩, List.mem_of_getElem? (i := 493) (by decide +kernel), List.mem_of_getElem? (i := 641) (by decide +kernel), List.mem_of_getElem? (i := 642) (by decide +kernel)⟩
theorem lw_p17 : lw_okq (⟨"KeyholeNewsModel", "can", "([II)Z"⟩, 30) := ⟨⟨by decide +kernel, by decide +kernel⟩, List.mem_of_getElem? (i := 493) (by decide +kernel), List.mem_of_getElem? (i := 655) (by decide +kernel), List.mem_of_getElem? (i := 656) (by decide +kernel)⟩
theorem lw_p18 : lw_okq (⟨"KeyholeNewsModel", "note", "()V"⟩, 30) := ⟨⟨by decide +kernel, by decide +kernel⟩, List.mem_of_getElem? (i := 493) (by decide +kernel), List.mem_of_getElem? (i := 659) (by decide +kernel), List.mem_of_getElem? (i := 660) (by decide +kernel)⟩
theorem lw_p19 : lw_okq (⟨"KeyholeNewsModel", "go", "([II)I"⟩, 30) := ⟨⟨by decide +kernel, by decide +kernel⟩, List.mem_of_getElem? (i := 493) (by decide +kernel), List.mem_of_getElem? (i := 663) (by decide +kernel), List.mem_of_getElem? (i := 664) (by decide +kernel)⟩
theorem lw_p20 : lw_okq (⟨"KeyholeNewsModel", "findBest", "(I)V"⟩, 30) := ⟨⟨by decide +kernel, by decide +kernel⟩, List.mem_of_getElem? (i := 493) (by decide +kernel), List.mem_of_getElem? (i := 695) (by decide +kernel), List.mem_of_getElem? (i := 696) (by decide +kernel)⟩
theorem lw_p21 : lw_okq (⟨"KeyholeNewsModel", "findRests", "()V"⟩, 30) := ⟨⟨by decide +kernel, by decide +kernel⟩, List.mem_of_getElem? (i := 493) (by decide +kernel), List.mem_of_getElem? (i := 751) (by decide +kernel), List.mem_of_getElem? (i := 752) (by decide +kernel)⟩
theorem lw_p22 : lw_okq (⟨"KeyholeNewsModel", "holds", "(II)I"⟩, 30) := ⟨⟨by decide +kernel, by decide +kernel⟩, List.mem_of_getElem? (i := 493) (by decide +kernel), List.mem_of_getElem? (i := 755) (by decide +kernel), List.mem_of_getElem? (i := 756) (by decide +kernel)⟩
theorem lw_p23 : lw_okq (⟨"KeyholeNewsModel", "layLooks", "(II)Z"⟩, 30) := ⟨⟨by decide +kernel, by decide +kernel⟩, List.mem_of_getElem? (i := 493) (by decide +kernel), List.mem_of_getElem? (i := 763) (by decide +kernel), List.mem_of_getElem? (i := 764) (by decide +kernel)⟩
def lw_privs_2 : List (MethodName × Nat) := [(⟨"KeyholeNewsModel", "sightOf", "([III)I"⟩, 30), (⟨"KeyholeNewsModel", "can", "([II)Z"⟩, 30), (⟨"KeyholeNewsModel", "note", "()V"⟩, 30), (⟨"KeyholeNewsModel", "go", "([II)I"⟩, 30), (⟨"KeyholeNewsModel", "findBest", "(I)V"⟩, 30), (⟨"KeyholeNewsModel", "findRests", "()V"⟩, 30), (⟨"KeyholeNewsModel", "holds", "(II)I"⟩, 30), (⟨"KeyholeNewsModel", "layLooks", "(II)Z"⟩, 30)]
theorem lw_r2 : ∀ q ∈ lw_privs_2, lw_okq q := List.forall_mem_cons.mpr ⟨lw_p16, List.forall_mem_cons.mpr ⟨lw_p17, List.forall_mem_cons.mpr ⟨lw_p18, List.forall_mem_cons.mpr ⟨lw_p19, List.forall_mem_cons.mpr ⟨lw_p20, List.forall_mem_cons.mpr ⟨lw_p21, List.forall_mem_cons.mpr ⟨lw_p22, List.forall_mem_cons.mpr ⟨lw_p23, fun _ h => absurd h List.not_mem_nil⟩⟩⟩⟩⟩⟩⟩⟩
def lw_privs : List (MethodName × Nat) := lw_privs_1 ++ (lw_privs_2)
def lw_tbl : List Cond := k2_sels lw_privs ++ tables_1
theorem lw_privs_ok : ∀ q ∈ lw_privs, lw_okq q := by
  show ∀ q ∈ lw_privs_1 ++ (lw_privs_2), lw_okq q
  exact List.forall_mem_append.mpr ⟨lw_r1, lw_r2⟩
end
section
/-! names, fields, bytes of the methods (out of claim/NAMES.whole.lean.txt) -/
def RX0 : String := "KeyholeNews$Acts"
def TX0 : u_T := fun k => match k with
  | 0 => ("KeyholeNews$Acts", "before", "[LKeyholeNews$Stand;", true)
  | 1 => ("KeyholeNews$Acts", "first", "I", false)
  | _ => ("KeyholeNews$Acts", "count", "I", false)
def tyX0 : Nat → FieldType := fun k => match k with
  | 0 => .array (.object "KeyholeNews$Stand")
  | 1 => .int
  | _ => .int
abbrev wsX00 : List Cond := u_ws RX0 TX0 3
theorem nmX0 : ∀ a, a < 3 → ∀ b, b < 3 → a ≠ b → (TX0 a).2.1 ≠ (TX0 b).2.1 := by decide +kernel
theorem tyX0_ok : ∀ k, k < 3 → parseFieldDescriptor (TX0 k).2.2.1 = some (tyX0 k) := by decide +kernel
abbrev cX0_init : ByteArray := prog_2_method_1_code
def yX0_init : MethodName := ⟨RX0, "<init>", "()V"⟩
abbrev cX0_remember : ByteArray := prog_2_method_2_code
def yX0_remember : MethodName := ⟨RX0, "remember", "(LKeyholeNews$Stand;)V"⟩
abbrev cX0_takeBack : ByteArray := prog_2_method_3_code
def yX0_takeBack : MethodName := ⟨RX0, "takeBack", "(LKeyholeNews$Stand;)V"⟩
def RX1 : String := "KeyholeNews$Search"
def TX1 : u_T := fun k => match k with
  | 0 => ("KeyholeNews$Search", "levels", "[LKeyholeNews$Stand;", true)
  | _ => ("KeyholeNews$Search", "at", "LKeyholeNews$Stand;", true)
def tyX1 : Nat → FieldType := fun k => match k with
  | 0 => .array (.object "KeyholeNews$Stand")
  | _ => .object "KeyholeNews$Stand"
abbrev wsX10 : List Cond := u_ws RX1 TX1 2
theorem nmX1 : ∀ a, a < 2 → ∀ b, b < 2 → a ≠ b → (TX1 a).2.1 ≠ (TX1 b).2.1 := by decide +kernel
theorem tyX1_ok : ∀ k, k < 2 → parseFieldDescriptor (TX1 k).2.2.1 = some (tyX1 k) := by decide +kernel
abbrev cX1_init : ByteArray := prog_3_method_1_code
def yX1_init : MethodName := ⟨RX1, "<init>", "()V"⟩
abbrev cX1_most : ByteArray := prog_3_method_2_code
def yX1_most : MethodName := ⟨RX1, "most", "(LKeyholeNews$Street;LKeyholeNews$Stand;I)I"⟩
abbrev cX1_bestRow : ByteArray := prog_3_method_3_code
def yX1_bestRow : MethodName := ⟨RX1, "bestRow", "(LKeyholeNews$Street;LKeyholeNews$Stand;I)I"⟩
abbrev cX1_firstTurnTo : ByteArray := prog_3_method_4_code
def yX1_firstTurnTo : MethodName := ⟨RX1, "firstTurnTo", "(LKeyholeNews$Street;II)I"⟩
abbrev cX1_mostBelow : ByteArray := prog_3_method_5_code
def yX1_mostBelow : MethodName := ⟨RX1, "mostBelow", "(LKeyholeNews$Street;[LKeyholeNews$Stand;I)I"⟩
def RX2 : String := "KeyholeNews$Seen"
def TX2 : u_T := fun k => match k with
  | 0 => ("KeyholeNews$Seen", "houses", "[I", true)
  | 1 => ("KeyholeNews$Seen", "goings", "[I", true)
  | 2 => ("KeyholeNews$Seen", "hours", "[I", true)
  | 3 => ("KeyholeNews$Seen", "shown", "[I", true)
  | _ => ("KeyholeNews$Seen", "count", "I", false)
def tyX2 : Nat → FieldType := fun k => match k with
  | 0 => .array .int
  | 1 => .array .int
  | 2 => .array .int
  | 3 => .array .int
  | _ => .int
abbrev wsX20 : List Cond := u_ws RX2 TX2 5
theorem nmX2 : ∀ a, a < 5 → ∀ b, b < 5 → a ≠ b → (TX2 a).2.1 ≠ (TX2 b).2.1 := by decide +kernel
theorem tyX2_ok : ∀ k, k < 5 → parseFieldDescriptor (TX2 k).2.2.1 = some (tyX2 k) := by decide +kernel
abbrev cX2_init : ByteArray := prog_4_method_1_code
def yX2_init : MethodName := ⟨RX2, "<init>", "()V"⟩
abbrev cX2_add : ByteArray := prog_4_method_2_code
def yX2_add : MethodName := ⟨RX2, "add", "(IIII)V"⟩
abbrev cX2_allows : ByteArray := prog_4_method_3_code
def yX2_allows : MethodName := ⟨RX2, "allows", "(II)Z"⟩
def RX3 : String := "KeyholeNews$Stand"
def TX3 : u_T := fun k => match k with
  | 0 => ("KeyholeNews$Stand", "reader", "I", false)
  | 1 => ("KeyholeNews$Stand", "farthings", "I", false)
  | 2 => ("KeyholeNews$Stand", "hour", "I", false)
  | 3 => ("KeyholeNews$Stand", "joy", "I", false)
  | 4 => ("KeyholeNews$Stand", "lamps", "I", false)
  | 5 => ("KeyholeNews$Stand", "keys", "I", false)
  | _ => ("KeyholeNews$Stand", "read", "I", false)
def tyX3 : Nat → FieldType := fun k => match k with
  | 0 => .int
  | 1 => .int
  | 2 => .int
  | 3 => .int
  | 4 => .int
  | 5 => .int
  | _ => .int
abbrev wsX30 : List Cond := u_ws RX3 TX3 7
theorem nmX3 : ∀ a, a < 7 → ∀ b, b < 7 → a ≠ b → (TX3 a).2.1 ≠ (TX3 b).2.1 := by decide +kernel
theorem tyX3_ok : ∀ k, k < 7 → parseFieldDescriptor (TX3 k).2.2.1 = some (tyX3 k) := by decide +kernel
abbrev cX3_init : ByteArray := prog_5_method_1_code
def yX3_init : MethodName := ⟨RX3, "<init>", "()V"⟩
abbrev cX3_begin : ByteArray := prog_5_method_2_code
def yX3_begin : MethodName := ⟨RX3, "begin", "(LKeyholeNews$Street;)V"⟩
abbrev cX3_copy : ByteArray := prog_5_method_3_code
def yX3_copy : MethodName := ⟨RX3, "copy", "(LKeyholeNews$Stand;)V"⟩
abbrev cX3_readOf : ByteArray := prog_5_method_4_code
def yX3_readOf : MethodName := ⟨RX3, "readOf", "(I)I"⟩
abbrev cX3_shown : ByteArray := prog_5_method_5_code
def yX3_shown : MethodName := ⟨RX3, "shown", "(LKeyholeNews$Street;II)I"⟩
abbrev cX3_can : ByteArray := prog_5_method_6_code
def yX3_can : MethodName := ⟨RX3, "can", "(LKeyholeNews$Street;I)Z"⟩
abbrev cX3_take : ByteArray := prog_5_method_7_code
def yX3_take : MethodName := ⟨RX3, "take", "(LKeyholeNews$Street;I)I"⟩
abbrev cX3_gain : ByteArray := prog_5_method_8_code
def yX3_gain : MethodName := ⟨RX3, "gain", "(LKeyholeNews$Street;)I"⟩
abbrev cX3_newsBit : ByteArray := prog_5_method_9_code
def yX3_newsBit : MethodName := ⟨RX3, "newsBit", "()I"⟩
def RX4 : String := "KeyholeNews$Street"
def TX4 : u_T := fun k => match k with
  | 0 => ("KeyholeNews$Street", "shapes", "[I", true)
  | 1 => ("KeyholeNews$Street", "news", "[I", true)
  | 2 => ("KeyholeNews$Street", "sights", "[I", true)
  | 3 => ("KeyholeNews$Street", "count", "I", false)
  | _ => ("KeyholeNews$Street", "farthings", "I", false)
def tyX4 : Nat → FieldType := fun k => match k with
  | 0 => .array .int
  | 1 => .array .int
  | 2 => .array .int
  | 3 => .int
  | _ => .int
abbrev wsX40 : List Cond := u_ws RX4 TX4 5
theorem nmX4 : ∀ a, a < 5 → ∀ b, b < 5 → a ≠ b → (TX4 a).2.1 ≠ (TX4 b).2.1 := by decide +kernel
theorem tyX4_ok : ∀ k, k < 5 → parseFieldDescriptor (TX4 k).2.2.1 = some (tyX4 k) := by decide +kernel
abbrev cX4_init : ByteArray := prog_6_method_1_code
def yX4_init : MethodName := ⟨RX4, "<init>", "()V"⟩
abbrev cX4_takeFrom : ByteArray := prog_6_method_2_code
def yX4_takeFrom : MethodName := ⟨RX4, "takeFrom", "(LKeyholeNews$Text;)V"⟩
abbrev cX4_has : ByteArray := prog_6_method_3_code
def yX4_has : MethodName := ⟨RX4, "has", "(I)Z"⟩
abbrev cX4_shapeOf : ByteArray := prog_6_method_4_code
def yX4_shapeOf : MethodName := ⟨RX4, "shapeOf", "(I)I"⟩
abbrev cX4_newsOf : ByteArray := prog_6_method_5_code
def yX4_newsOf : MethodName := ⟨RX4, "newsOf", "(II)I"⟩
abbrev cX4_through : ByteArray := prog_6_method_6_code
def yX4_through : MethodName := ⟨RX4, "through", "(III)I"⟩
def RX5 : String := "KeyholeNews$Text"
def TX5 : u_T := fun k => match k with
  | 0 => ("KeyholeNews$Text", "bytes", "[I", true)
  | _ => ("KeyholeNews$Text", "length", "I", false)
def tyX5 : Nat → FieldType := fun k => match k with
  | 0 => .array .int
  | _ => .int
abbrev wsX50 : List Cond := u_ws RX5 TX5 2
theorem nmX5 : ∀ a, a < 2 → ∀ b, b < 2 → a ≠ b → (TX5 a).2.1 ≠ (TX5 b).2.1 := by decide +kernel
theorem tyX5_ok : ∀ k, k < 2 → parseFieldDescriptor (TX5 k).2.2.1 = some (tyX5 k) := by decide +kernel
abbrev cX5_init : ByteArray := prog_7_method_1_code
def yX5_init : MethodName := ⟨RX5, "<init>", "()V"⟩
abbrev cX5_add : ByteArray := prog_7_method_2_code
def yX5_add : MethodName := ⟨RX5, "add", "(I)V"⟩
abbrev cX5_at : ByteArray := prog_7_method_3_code
def yX5_at : MethodName := ⟨RX5, "at", "(I)I"⟩
abbrev cX5_digitAt : ByteArray := prog_7_method_4_code
def yX5_digitAt : MethodName := ⟨RX5, "digitAt", "(I)I"⟩
abbrev cX5_housesTold : ByteArray := prog_7_method_5_code
def yX5_housesTold : MethodName := ⟨RX5, "housesTold", "()I"⟩
abbrev cX5_firstFault : ByteArray := prog_7_method_6_code
def yX5_firstFault : MethodName := ⟨RX5, "firstFault", "()I"⟩
abbrev cX5_fits : ByteArray := prog_7_method_7_code
def yX5_fits : MethodName := ⟨RX5, "fits", "(I)Z"⟩
abbrev cX5_isDigit : ByteArray := prog_7_method_8_code
def yX5_isDigit : MethodName := ⟨RX5, "isDigit", "(II)Z"⟩
def RX6 : String := "KeyholeNews"
def TX6 : u_T := fun k => match k with
  | 0 => ("KeyholeNews", "text", "LKeyholeNews$Text;", true)
  | 1 => ("KeyholeNews", "street", "LKeyholeNews$Street;", true)
  | 2 => ("KeyholeNews", "now", "LKeyholeNews$Stand;", true)
  | 3 => ("KeyholeNews", "trial", "LKeyholeNews$Stand;", true)
  | 4 => ("KeyholeNews", "acts", "LKeyholeNews$Acts;", true)
  | 5 => ("KeyholeNews", "search", "LKeyholeNews$Search;", true)
  | 6 => ("KeyholeNews", "seen", "LKeyholeNews$Seen;", true)
  | 7 => ("KeyholeNews", "kept", "[LKeyholeNews$Stand;", true)
  | 8 => ("KeyholeNews", "gains", "[I", true)
  | 9 => ("KeyholeNews", "keptSlots", "I", false)
  | _ => ("KeyholeNews", "seed", "J", false)
def tyX6 : Nat → FieldType := fun k => match k with
  | 0 => .object "KeyholeNews$Text"
  | 1 => .object "KeyholeNews$Street"
  | 2 => .object "KeyholeNews$Stand"
  | 3 => .object "KeyholeNews$Stand"
  | 4 => .object "KeyholeNews$Acts"
  | 5 => .object "KeyholeNews$Search"
  | 6 => .object "KeyholeNews$Seen"
  | 7 => .array (.object "KeyholeNews$Stand")
  | 8 => .array .int
  | 9 => .int
  | _ => .long
abbrev wsX60 : List Cond := u_ws RX6 TX6 11
theorem nmX6 : ∀ a, a < 11 → ∀ b, b < 11 → a ≠ b → (TX6 a).2.1 ≠ (TX6 b).2.1 := by decide +kernel
theorem tyX6_ok : ∀ k, k < 11 → parseFieldDescriptor (TX6 k).2.2.1 = some (tyX6 k) := by decide +kernel
abbrev cX6_init : ByteArray := prog_1_method_1_code
def yX6_init : MethodName := ⟨RX6, "<init>", "()V"⟩
abbrev cX6_write : ByteArray := prog_1_method_2_code
def yX6_write : MethodName := ⟨RX6, "write", "(I)I"⟩
abbrev cX6_wipe : ByteArray := prog_1_method_3_code
def yX6_wipe : MethodName := ⟨RX6, "wipe", "()I"⟩
abbrev cX6_fault : ByteArray := prog_1_method_4_code
def yX6_fault : MethodName := ⟨RX6, "fault", "()I"⟩
abbrev cX6_street : ByteArray := prog_1_method_5_code
def yX6_street : MethodName := ⟨RX6, "street", "()I"⟩
abbrev cX6_about : ByteArray := prog_1_method_6_code
def yX6_about : MethodName := ⟨RX6, "about", "(I)I"⟩
abbrev cX6_house : ByteArray := prog_1_method_7_code
def yX6_house : MethodName := ⟨RX6, "house", "(II)I"⟩
abbrev cX6_sight : ByteArray := prog_1_method_8_code
def yX6_sight : MethodName := ⟨RX6, "sight", "(II)I"⟩
abbrev cX6_walk : ByteArray := prog_1_method_9_code
def yX6_walk : MethodName := ⟨RX6, "walk", "(I)I"⟩
abbrev cX6_look : ByteArray := prog_1_method_10_code
def yX6_look : MethodName := ⟨RX6, "look", "()I"⟩
abbrev cX6_pause : ByteArray := prog_1_method_11_code
def yX6_pause : MethodName := ⟨RX6, "pause", "()I"⟩
abbrev cX6_lamp : ByteArray := prog_1_method_12_code
def yX6_lamp : MethodName := ⟨RX6, "lamp", "(I)I"⟩
abbrev cX6_key : ByteArray := prog_1_method_13_code
def yX6_key : MethodName := ⟨RX6, "key", "(I)I"⟩
abbrev cX6_undo : ByteArray := prog_1_method_14_code
def yX6_undo : MethodName := ⟨RX6, "undo", "()I"⟩
abbrev cX6_act : ByteArray := prog_1_method_15_code
def yX6_act : MethodName := ⟨RX6, "act", "(I)I"⟩
abbrev cX6_best : ByteArray := prog_1_method_16_code
def yX6_best : MethodName := ⟨RX6, "best", "(IZ)I"⟩
abbrev cX6_fewest : ByteArray := prog_1_method_17_code
def yX6_fewest : MethodName := ⟨RX6, "fewest", "(I)I"⟩
abbrev cX6_keys : ByteArray := prog_1_method_18_code
def yX6_keys : MethodName := ⟨RX6, "keys", "(II)I"⟩
abbrev cX6_judge : ByteArray := prog_1_method_19_code
def yX6_judge : MethodName := ⟨RX6, "judge", "(II)I"⟩
abbrev cX6_share : ByteArray := prog_1_method_20_code
def yX6_share : MethodName := ⟨RX6, "share", "(IZ)I"⟩
abbrev cX6_bestWithKeys : ByteArray := prog_1_method_21_code
def yX6_bestWithKeys : MethodName := ⟨RX6, "bestWithKeys", "(II)I"⟩
abbrev cX6_bestAmong : ByteArray := prog_1_method_22_code
def yX6_bestAmong : MethodName := ⟨RX6, "bestAmong", "(I)I"⟩
abbrev cX6_see : ByteArray := prog_1_method_23_code
def yX6_see : MethodName := ⟨RX6, "see", "(IIII)I"⟩
abbrev cX6_unsee : ByteArray := prog_1_method_24_code
def yX6_unsee : MethodName := ⟨RX6, "unsee", "()I"⟩
abbrev cX6_shapes : ByteArray := prog_1_method_25_code
def yX6_shapes : MethodName := ⟨RX6, "shapes", "(I)I"⟩
abbrev cX6_rests : ByteArray := prog_1_method_26_code
def yX6_rests : MethodName := ⟨RX6, "rests", "(I)I"⟩
abbrev cX6_chance : ByteArray := prog_1_method_27_code
def yX6_chance : MethodName := ⟨RX6, "chance", "(IIIIZ)I"⟩
abbrev cX6_seed : ByteArray := prog_1_method_28_code
def yX6_seed : MethodName := ⟨RX6, "seed", "(J)J"⟩
abbrev cX6_rounds : ByteArray := prog_1_method_29_code
def yX6_rounds : MethodName := ⟨RX6, "rounds", "(I)I"⟩
abbrev cX6_isContent : ByteArray := prog_1_method_30_code
def yX6_isContent : MethodName := ⟨RX6, "isContent", "(II)Z"⟩
abbrev cX6_restJoy : ByteArray := prog_1_method_31_code
def yX6_restJoy : MethodName := ⟨RX6, "restJoy", "(II)I"⟩
abbrev cX6_gatherGains : ByteArray := prog_1_method_32_code
def yX6_gatherGains : MethodName := ⟨RX6, "gatherGains", "(II)I"⟩
abbrev cX6_joyOf : ByteArray := prog_1_method_33_code
def yX6_joyOf : MethodName := ⟨RX6, "joyOf", "(II)I"⟩
abbrev cX6_weightOf : ByteArray := prog_1_method_34_code
def yX6_weightOf : MethodName := ⟨RX6, "weightOf", "(III)I"⟩
abbrev cX6_playRound : ByteArray := prog_1_method_35_code
def yX6_playRound : MethodName := ⟨RX6, "playRound", "(I)V"⟩
abbrev cX6_keep : ByteArray := prog_1_method_36_code
def yX6_keep : MethodName := ⟨RX6, "keep", "(I)I"⟩
abbrev cX6_again : ByteArray := prog_1_method_37_code
def yX6_again : MethodName := ⟨RX6, "again", "(I)I"⟩
abbrev cX6_isRow : ByteArray := prog_1_method_38_code
def yX6_isRow : MethodName := ⟨RX6, "isRow", "(II)Z"⟩
abbrev cX6_figure : ByteArray := prog_1_method_39_code
def yX6_figure : MethodName := ⟨RX6, "figure", "(III)I"⟩
abbrev cX6_power : ByteArray := prog_1_method_40_code
def yX6_power : MethodName := ⟨RX6, "power", "(II)I"⟩
abbrev cX6_factorial : ByteArray := prog_1_method_41_code
def yX6_factorial : MethodName := ⟨RX6, "factorial", "(I)I"⟩
abbrev cX6_partOf : ByteArray := prog_1_method_42_code
def yX6_partOf : MethodName := ⟨RX6, "partOf", "(IIZ)I"⟩
abbrev cX6_commonDivisor : ByteArray := prog_1_method_43_code
def yX6_commonDivisor : MethodName := ⟨RX6, "commonDivisor", "(II)I"⟩
abbrev cX6_newStands : ByteArray := prog_1_method_44_code
def yX6_newStands : MethodName := ⟨RX6, "newStands", "(I)[LKeyholeNews$Stand;"⟩
def RX7 : String := "KeyholeNewsModel"
def TX7 : u_T := fun k => match k with
  | 0 => ("KeyholeNewsModel", "thrown", "I", false)
  | 1 => ("KeyholeNewsModel", "text", "[I", true)
  | 2 => ("KeyholeNewsModel", "textSize", "I", false)
  | 3 => ("KeyholeNewsModel", "place", "I", false)
  | 4 => ("KeyholeNewsModel", "houses", "I", false)
  | 5 => ("KeyholeNewsModel", "shape", "[I", true)
  | 6 => ("KeyholeNewsModel", "news", "[I", true)
  | 7 => ("KeyholeNewsModel", "readFarthings", "I", false)
  | 8 => ("KeyholeNewsModel", "readHouses", "I", false)
  | 9 => ("KeyholeNewsModel", "readHouse", "[I", true)
  | 10 => ("KeyholeNewsModel", "page", "[I", true)
  | 11 => ("KeyholeNewsModel", "trial", "[I", true)
  | 12 => ("KeyholeNewsModel", "base", "[I", true)
  | 13 => ("KeyholeNewsModel", "book", "[I", true)
  | 14 => ("KeyholeNewsModel", "acts", "I", false)
  | 15 => ("KeyholeNewsModel", "kept", "[I", true)
  | 16 => ("KeyholeNewsModel", "isKept", "[Z", true)
  | 17 => ("KeyholeNewsModel", "seen", "I", false)
  | 18 => ("KeyholeNewsModel", "seenHouse", "[I", true)
  | 19 => ("KeyholeNewsModel", "seenNews", "[I", true)
  | 20 => ("KeyholeNewsModel", "seenHour", "[I", true)
  | 21 => ("KeyholeNewsModel", "seenShown", "[I", true)
  | 22 => ("KeyholeNewsModel", "seed", "J", false)
  | 23 => ("KeyholeNewsModel", "bestJoy", "I", false)
  | 24 => ("KeyholeNewsModel", "bestRow", "I", false)
  | 25 => ("KeyholeNewsModel", "restMany", "I", false)
  | 26 => ("KeyholeNewsModel", "restFirst", "I", false)
  | 27 => ("KeyholeNewsModel", "value", "[I", true)
  | 28 => ("KeyholeNewsModel", "joys", "[I", true)
  | _ => ("KeyholeNewsModel", "looks", "I", false)
def tyX7 : Nat → FieldType := fun k => match k with
  | 0 => .int
  | 1 => .array .int
  | 2 => .int
  | 3 => .int
  | 4 => .int
  | 5 => .array .int
  | 6 => .array .int
  | 7 => .int
  | 8 => .int
  | 9 => .array .int
  | 10 => .array .int
  | 11 => .array .int
  | 12 => .array .int
  | 13 => .array .int
  | 14 => .int
  | 15 => .array .int
  | 16 => .array .boolean
  | 17 => .int
  | 18 => .array .int
  | 19 => .array .int
  | 20 => .array .int
  | 21 => .array .int
  | 22 => .long
  | 23 => .int
  | 24 => .int
  | 25 => .int
  | 26 => .int
  | 27 => .array .int
  | 28 => .array .int
  | _ => .int
abbrev wsX70 : List Cond := u_ws RX7 TX7 30
theorem nmX7 : ∀ a, a < 30 → ∀ b, b < 30 → a ≠ b → (TX7 a).2.1 ≠ (TX7 b).2.1 := by decide +kernel
theorem tyX7_ok : ∀ k, k < 30 → parseFieldDescriptor (TX7 k).2.2.1 = some (tyX7 k) := by decide +kernel
abbrev cX7_init : ByteArray := prog_9_method_1_code
def yX7_init : MethodName := ⟨RX7, "<init>", "()V"⟩
abbrev cX7_in : ByteArray := prog_9_method_3_code
def yX7_in : MethodName := ⟨RX7, "in", "(JJJ)Z"⟩
abbrev cX7_has : ByteArray := prog_9_method_4_code
def yX7_has : MethodName := ⟨RX7, "has", "(II)Z"⟩
abbrev cX7_many : ByteArray := prog_9_method_5_code
def yX7_many : MethodName := ⟨RX7, "many", "(I)I"⟩
abbrev cX7_noHouse : ByteArray := prog_9_method_6_code
def yX7_noHouse : MethodName := ⟨RX7, "noHouse", "(I)Z"⟩
abbrev cX7_write : ByteArray := prog_9_method_7_code
def yX7_write : MethodName := ⟨RX7, "write", "(I)I"⟩
abbrev cX7_wipe : ByteArray := prog_9_method_8_code
def yX7_wipe : MethodName := ⟨RX7, "wipe", "()I"⟩
abbrev cX7_figure : ByteArray := prog_9_method_9_code
def yX7_figure : MethodName := ⟨RX7, "figure", "(I)I"⟩
abbrev cX7_readHouse : ByteArray := prog_9_method_10_code
def yX7_readHouse : MethodName := ⟨RX7, "readHouse", "()Z"⟩
abbrev cX7_readStreet : ByteArray := prog_9_method_11_code
def yX7_readStreet : MethodName := ⟨RX7, "readStreet", "()I"⟩
abbrev cX7_fault : ByteArray := prog_9_method_12_code
def yX7_fault : MethodName := ⟨RX7, "fault", "()I"⟩
abbrev cX7_street : ByteArray := prog_9_method_13_code
def yX7_street : MethodName := ⟨RX7, "street", "()I"⟩
abbrev cX7_showsBy : ByteArray := prog_9_method_14_code
def yX7_showsBy : MethodName := ⟨RX7, "showsBy", "(III)I"⟩
abbrev cX7_sightOf : ByteArray := prog_9_method_15_code
def yX7_sightOf : MethodName := ⟨RX7, "sightOf", "([III)I"⟩
abbrev cX7_about : ByteArray := prog_9_method_16_code
def yX7_about : MethodName := ⟨RX7, "about", "(I)I"⟩
abbrev cX7_house : ByteArray := prog_9_method_17_code
def yX7_house : MethodName := ⟨RX7, "house", "(II)I"⟩
abbrev cX7_sight : ByteArray := prog_9_method_18_code
def yX7_sight : MethodName := ⟨RX7, "sight", "(II)I"⟩
abbrev cX7_note : ByteArray := prog_9_method_19_code
def yX7_note : MethodName := ⟨RX7, "note", "()V"⟩
abbrev cX7_can : ByteArray := prog_9_method_20_code
def yX7_can : MethodName := ⟨RX7, "can", "([II)Z"⟩
abbrev cX7_go : ByteArray := prog_9_method_21_code
def yX7_go : MethodName := ⟨RX7, "go", "([II)I"⟩
abbrev cX7_walk : ByteArray := prog_9_method_22_code
def yX7_walk : MethodName := ⟨RX7, "walk", "(I)I"⟩
abbrev cX7_look : ByteArray := prog_9_method_23_code
def yX7_look : MethodName := ⟨RX7, "look", "()I"⟩
abbrev cX7_pause : ByteArray := prog_9_method_24_code
def yX7_pause : MethodName := ⟨RX7, "pause", "()I"⟩
abbrev cX7_lamp : ByteArray := prog_9_method_25_code
def yX7_lamp : MethodName := ⟨RX7, "lamp", "(I)I"⟩
abbrev cX7_key : ByteArray := prog_9_method_26_code
def yX7_key : MethodName := ⟨RX7, "key", "(I)I"⟩
abbrev cX7_undo : ByteArray := prog_9_method_27_code
def yX7_undo : MethodName := ⟨RX7, "undo", "()I"⟩
abbrev cX7_copy : ByteArray := prog_9_method_28_code
def yX7_copy : MethodName := ⟨RX7, "copy", "([I[I)V"⟩
abbrev cX7_power : ByteArray := prog_9_method_29_code
def yX7_power : MethodName := ⟨RX7, "power", "(II)I"⟩
abbrev cX7_findBest : ByteArray := prog_9_method_30_code
def yX7_findBest : MethodName := ⟨RX7, "findBest", "(I)V"⟩
abbrev cX7_best : ByteArray := prog_9_method_31_code
def yX7_best : MethodName := ⟨RX7, "best", "(IZ)I"⟩
abbrev cX7_fewest : ByteArray := prog_9_method_32_code
def yX7_fewest : MethodName := ⟨RX7, "fewest", "(I)I"⟩
abbrev cX7_keys : ByteArray := prog_9_method_33_code
def yX7_keys : MethodName := ⟨RX7, "keys", "(II)I"⟩
abbrev cX7_noRow : ByteArray := prog_9_method_34_code
def yX7_noRow : MethodName := ⟨RX7, "noRow", "(III)Z"⟩
abbrev cX7_judge : ByteArray := prog_9_method_35_code
def yX7_judge : MethodName := ⟨RX7, "judge", "(II)I"⟩
abbrev cX7_ways : ByteArray := prog_9_method_36_code
def yX7_ways : MethodName := ⟨RX7, "ways", "(I)I"⟩
abbrev cX7_divisor : ByteArray := prog_9_method_37_code
def yX7_divisor : MethodName := ⟨RX7, "divisor", "(II)I"⟩
abbrev cX7_fraction : ByteArray := prog_9_method_38_code
def yX7_fraction : MethodName := ⟨RX7, "fraction", "(IIZ)I"⟩
abbrev cX7_share : ByteArray := prog_9_method_39_code
def yX7_share : MethodName := ⟨RX7, "share", "(IZ)I"⟩
abbrev cX7_see : ByteArray := prog_9_method_40_code
def yX7_see : MethodName := ⟨RX7, "see", "(IIII)I"⟩
abbrev cX7_unsee : ByteArray := prog_9_method_41_code
def yX7_unsee : MethodName := ⟨RX7, "unsee", "()I"⟩
abbrev cX7_shapes : ByteArray := prog_9_method_42_code
def yX7_shapes : MethodName := ⟨RX7, "shapes", "(I)I"⟩
abbrev cX7_holds : ByteArray := prog_9_method_43_code
def yX7_holds : MethodName := ⟨RX7, "holds", "(II)I"⟩
abbrev cX7_findRests : ByteArray := prog_9_method_44_code
def yX7_findRests : MethodName := ⟨RX7, "findRests", "()V"⟩
abbrev cX7_rests : ByteArray := prog_9_method_45_code
def yX7_rests : MethodName := ⟨RX7, "rests", "(I)I"⟩
abbrev cX7_layLooks : ByteArray := prog_9_method_46_code
def yX7_layLooks : MethodName := ⟨RX7, "layLooks", "(II)Z"⟩
abbrev cX7_chance : ByteArray := prog_9_method_47_code
def yX7_chance : MethodName := ⟨RX7, "chance", "(IIIIZ)I"⟩
abbrev cX7_seed : ByteArray := prog_9_method_48_code
def yX7_seed : MethodName := ⟨RX7, "seed", "(J)J"⟩
abbrev cX7_rounds : ByteArray := prog_9_method_49_code
def yX7_rounds : MethodName := ⟨RX7, "rounds", "(I)I"⟩
abbrev cX7_keep : ByteArray := prog_9_method_50_code
def yX7_keep : MethodName := ⟨RX7, "keep", "(I)I"⟩
abbrev cX7_again : ByteArray := prog_9_method_51_code
def yX7_again : MethodName := ⟨RX7, "again", "(I)I"⟩
def RJ6 : String := "java/lang/Integer"
def TJ6 : u_T := fun k => match k with
  | _ => ("", "", "", false)
def tyJ6 : Nat → FieldType := fun k => match k with
  | _ => .int
abbrev wsJ60 : List Cond := u_ws RJ6 TJ6 0
theorem nmJ6 : ∀ a, a < 0 → ∀ b, b < 0 → a ≠ b → (TJ6 a).2.1 ≠ (TJ6 b).2.1 := by decide +kernel
theorem tyJ6_ok : ∀ k, k < 0 → parseFieldDescriptor (TJ6 k).2.2.1 = some (tyJ6 k) := by decide +kernel
abbrev cJ6_bitCount_0f7a4 : ByteArray := prog_10_method_49_code
def yJ6_bitCount_0f7a4 : MethodName := ⟨RJ6, "bitCount", "(I)I"⟩
def RJ9 : String := "java/lang/Math"
def TJ9 : u_T := fun k => match k with
  | _ => ("", "", "", false)
def tyJ9 : Nat → FieldType := fun k => match k with
  | _ => .int
abbrev wsJ90 : List Cond := u_ws RJ9 TJ9 0
theorem nmJ9 : ∀ a, a < 0 → ∀ b, b < 0 → a ≠ b → (TJ9 a).2.1 ≠ (TJ9 b).2.1 := by decide +kernel
theorem tyJ9_ok : ∀ k, k < 0 → parseFieldDescriptor (TJ9 k).2.2.1 = some (tyJ9 k) := by decide +kernel
abbrev cJ9_floorMod_7cf53 : ByteArray := prog_11_method_50_code
def yJ9_floorMod_7cf53 : MethodName := ⟨RJ9, "floorMod", "(II)I"⟩
abbrev cJ9_max_7cf53 : ByteArray := prog_11_method_65_code
def yJ9_max_7cf53 : MethodName := ⟨RJ9, "max", "(II)I"⟩
abbrev cJ9_min_7cf53 : ByteArray := prog_11_method_69_code
def yJ9_min_7cf53 : MethodName := ⟨RJ9, "min", "(II)I"⟩
def RL : String := "KeyholeNewsLaw"
abbrev cL_law : ByteArray := code
def yL_law : MethodName := ⟨RL, "law", "([I)Z"⟩
end
section
/-! decode rows -/
theorem dX0_init_0 : decode cX0_init 0 = .ok (.aload_n 0, 1) := by decide +kernel
theorem dX0_init_1 : decode cX0_init 1 = .ok (.invokespecial 3, 3) := by decide +kernel
theorem dX0_init_4 : decode cX0_init 4 = .ok (.aload_n 0, 1) := by decide +kernel
theorem dX0_init_5 : decode cX0_init 5 = .ok (.bipush 14, 2) := by decide +kernel
theorem dX0_init_7 : decode cX0_init 7 = .ok (.invokestatic 9, 3) := by decide +kernel
theorem dX0_init_10 : decode cX0_init 10 = .ok (.putfield 13, 3) := by decide +kernel
theorem dX0_init_13 : decode cX0_init 13 = .ok (.aload_n 0, 1) := by decide +kernel
theorem dX0_init_14 : decode cX0_init 14 = .ok (.iconst 0, 1) := by decide +kernel
theorem dX0_init_15 : decode cX0_init 15 = .ok (.putfield 19, 3) := by decide +kernel
theorem dX0_init_18 : decode cX0_init 18 = .ok (.aload_n 0, 1) := by decide +kernel
theorem dX0_init_19 : decode cX0_init 19 = .ok (.iconst 0, 1) := by decide +kernel
theorem dX0_init_20 : decode cX0_init 20 = .ok (.putfield 23, 3) := by decide +kernel
theorem dX0_init_23 : decode cX0_init 23 = .ok (.return_, 1) := by decide +kernel
theorem dX0_remember_0 : decode cX0_remember 0 = .ok (.aload_n 0, 1) := by decide +kernel
theorem dX0_remember_1 : decode cX0_remember 1 = .ok (.getfield 13, 3) := by decide +kernel
theorem dX0_remember_4 : decode cX0_remember 4 = .ok (.aload_n 0, 1) := by decide +kernel
theorem dX0_remember_5 : decode cX0_remember 5 = .ok (.getfield 19, 3) := by decide +kernel
theorem dX0_remember_8 : decode cX0_remember 8 = .ok (.aload_n 0, 1) := by decide +kernel
theorem dX0_remember_9 : decode cX0_remember 9 = .ok (.getfield 23, 3) := by decide +kernel
theorem dX0_remember_12 : decode cX0_remember 12 = .ok (.iadd, 1) := by decide +kernel
theorem dX0_remember_13 : decode cX0_remember 13 = .ok (.bipush 14, 2) := by decide +kernel
theorem dX0_remember_15 : decode cX0_remember 15 = .ok (.invokestatic 26, 3) := by decide +kernel
theorem dX0_remember_18 : decode cX0_remember 18 = .ok (.aaload, 1) := by decide +kernel
theorem dX0_remember_19 : decode cX0_remember 19 = .ok (.aload_n 1, 1) := by decide +kernel
theorem dX0_remember_20 : decode cX0_remember 20 = .ok (.invokevirtual 32, 3) := by decide +kernel
theorem dX0_remember_23 : decode cX0_remember 23 = .ok (.aload_n 0, 1) := by decide +kernel
theorem dX0_remember_24 : decode cX0_remember 24 = .ok (.getfield 23, 3) := by decide +kernel
theorem dX0_remember_27 : decode cX0_remember 27 = .ok (.bipush 14, 2) := by decide +kernel
theorem dX0_remember_29 : decode cX0_remember 29 = .ok (.if_icmp .ge 16, 3) := by decide +kernel
theorem dX0_remember_32 : decode cX0_remember 32 = .ok (.aload_n 0, 1) := by decide +kernel
theorem dX0_remember_33 : decode cX0_remember 33 = .ok (.dup, 1) := by decide +kernel
theorem dX0_remember_34 : decode cX0_remember 34 = .ok (.getfield 23, 3) := by decide +kernel
theorem dX0_remember_37 : decode cX0_remember 37 = .ok (.iconst 1, 1) := by decide +kernel
theorem dX0_remember_38 : decode cX0_remember 38 = .ok (.iadd, 1) := by decide +kernel
theorem dX0_remember_39 : decode cX0_remember 39 = .ok (.putfield 23, 3) := by decide +kernel
theorem dX0_remember_42 : decode cX0_remember 42 = .ok (.goto 18, 3) := by decide +kernel
theorem dX0_remember_45 : decode cX0_remember 45 = .ok (.aload_n 0, 1) := by decide +kernel
theorem dX0_remember_46 : decode cX0_remember 46 = .ok (.aload_n 0, 1) := by decide +kernel
theorem dX0_remember_47 : decode cX0_remember 47 = .ok (.getfield 19, 3) := by decide +kernel
theorem dX0_remember_50 : decode cX0_remember 50 = .ok (.iconst 1, 1) := by decide +kernel
theorem dX0_remember_51 : decode cX0_remember 51 = .ok (.iadd, 1) := by decide +kernel
theorem dX0_remember_52 : decode cX0_remember 52 = .ok (.bipush 14, 2) := by decide +kernel
theorem dX0_remember_54 : decode cX0_remember 54 = .ok (.invokestatic 26, 3) := by decide +kernel
theorem dX0_remember_57 : decode cX0_remember 57 = .ok (.putfield 19, 3) := by decide +kernel
theorem dX0_remember_60 : decode cX0_remember 60 = .ok (.return_, 1) := by decide +kernel
theorem dX0_takeBack_0 : decode cX0_takeBack 0 = .ok (.aload_n 0, 1) := by decide +kernel
theorem dX0_takeBack_1 : decode cX0_takeBack 1 = .ok (.dup, 1) := by decide +kernel
theorem dX0_takeBack_2 : decode cX0_takeBack 2 = .ok (.getfield 23, 3) := by decide +kernel
theorem dX0_takeBack_5 : decode cX0_takeBack 5 = .ok (.iconst 1, 1) := by decide +kernel
theorem dX0_takeBack_6 : decode cX0_takeBack 6 = .ok (.isub, 1) := by decide +kernel
theorem dX0_takeBack_7 : decode cX0_takeBack 7 = .ok (.putfield 23, 3) := by decide +kernel
theorem dX0_takeBack_10 : decode cX0_takeBack 10 = .ok (.aload_n 1, 1) := by decide +kernel
theorem dX0_takeBack_11 : decode cX0_takeBack 11 = .ok (.aload_n 0, 1) := by decide +kernel
theorem dX0_takeBack_12 : decode cX0_takeBack 12 = .ok (.getfield 13, 3) := by decide +kernel
theorem dX0_takeBack_15 : decode cX0_takeBack 15 = .ok (.aload_n 0, 1) := by decide +kernel
theorem dX0_takeBack_16 : decode cX0_takeBack 16 = .ok (.getfield 19, 3) := by decide +kernel
theorem dX0_takeBack_19 : decode cX0_takeBack 19 = .ok (.aload_n 0, 1) := by decide +kernel
theorem dX0_takeBack_20 : decode cX0_takeBack 20 = .ok (.getfield 23, 3) := by decide +kernel
theorem dX0_takeBack_23 : decode cX0_takeBack 23 = .ok (.iadd, 1) := by decide +kernel
theorem dX0_takeBack_24 : decode cX0_takeBack 24 = .ok (.bipush 14, 2) := by decide +kernel
theorem dX0_takeBack_26 : decode cX0_takeBack 26 = .ok (.invokestatic 26, 3) := by decide +kernel
theorem dX0_takeBack_29 : decode cX0_takeBack 29 = .ok (.aaload, 1) := by decide +kernel
theorem dX0_takeBack_30 : decode cX0_takeBack 30 = .ok (.invokevirtual 32, 3) := by decide +kernel
theorem dX0_takeBack_33 : decode cX0_takeBack 33 = .ok (.return_, 1) := by decide +kernel
theorem dX1_init_0 : decode cX1_init 0 = .ok (.aload_n 0, 1) := by decide +kernel
theorem dX1_init_1 : decode cX1_init 1 = .ok (.invokespecial 3, 3) := by decide +kernel
theorem dX1_init_4 : decode cX1_init 4 = .ok (.aload_n 0, 1) := by decide +kernel
theorem dX1_init_5 : decode cX1_init 5 = .ok (.bipush 7, 2) := by decide +kernel
theorem dX1_init_7 : decode cX1_init 7 = .ok (.invokestatic 9, 3) := by decide +kernel
theorem dX1_init_10 : decode cX1_init 10 = .ok (.putfield 13, 3) := by decide +kernel
theorem dX1_init_13 : decode cX1_init 13 = .ok (.aload_n 0, 1) := by decide +kernel
theorem dX1_init_14 : decode cX1_init 14 = .ok (.new 19, 3) := by decide +kernel
theorem dX1_init_17 : decode cX1_init 17 = .ok (.dup, 1) := by decide +kernel
theorem dX1_init_18 : decode cX1_init 18 = .ok (.invokespecial 21, 3) := by decide +kernel
theorem dX1_init_21 : decode cX1_init 21 = .ok (.putfield 22, 3) := by decide +kernel
theorem dX1_init_24 : decode cX1_init 24 = .ok (.return_, 1) := by decide +kernel
theorem dX1_most_0 : decode cX1_most 0 = .ok (.iload_n 3, 1) := by decide +kernel
theorem dX1_most_1 : decode cX1_most 1 = .ok (.ifCond .lt 12, 3) := by decide +kernel
theorem dX1_most_4 : decode cX1_most 4 = .ok (.iload_n 3, 1) := by decide +kernel
theorem dX1_most_5 : decode cX1_most 5 = .ok (.aload_n 0, 1) := by decide +kernel
theorem dX1_most_6 : decode cX1_most 6 = .ok (.getfield 13, 3) := by decide +kernel
theorem dX1_most_9 : decode cX1_most 9 = .ok (.arraylength, 1) := by decide +kernel
theorem dX1_most_10 : decode cX1_most 10 = .ok (.if_icmp .lt 5, 3) := by decide +kernel
theorem dX1_most_13 : decode cX1_most 13 = .ok (.iconst 0, 1) := by decide +kernel
theorem dX1_most_14 : decode cX1_most 14 = .ok (.ireturn, 1) := by decide +kernel
theorem dX1_most_15 : decode cX1_most 15 = .ok (.aload_n 0, 1) := by decide +kernel
theorem dX1_most_16 : decode cX1_most 16 = .ok (.getfield 13, 3) := by decide +kernel
theorem dX1_most_19 : decode cX1_most 19 = .ok (.iload_n 3, 1) := by decide +kernel
theorem dX1_most_20 : decode cX1_most 20 = .ok (.aaload, 1) := by decide +kernel
theorem dX1_most_21 : decode cX1_most 21 = .ok (.aload_n 2, 1) := by decide +kernel
theorem dX1_most_22 : decode cX1_most 22 = .ok (.invokevirtual 26, 3) := by decide +kernel
theorem dX1_most_25 : decode cX1_most 25 = .ok (.aload_n 1, 1) := by decide +kernel
theorem dX1_most_26 : decode cX1_most 26 = .ok (.aload_n 0, 1) := by decide +kernel
theorem dX1_most_27 : decode cX1_most 27 = .ok (.getfield 13, 3) := by decide +kernel
theorem dX1_most_30 : decode cX1_most 30 = .ok (.iload_n 3, 1) := by decide +kernel
theorem dX1_most_31 : decode cX1_most 31 = .ok (.invokestatic 30, 3) := by decide +kernel
theorem dX1_most_34 : decode cX1_most 34 = .ok (.aload_n 2, 1) := by decide +kernel
theorem dX1_most_35 : decode cX1_most 35 = .ok (.getfield 34, 3) := by decide +kernel
theorem dX1_most_38 : decode cX1_most 38 = .ok (.isub, 1) := by decide +kernel
theorem dX1_most_39 : decode cX1_most 39 = .ok (.ireturn, 1) := by decide +kernel
theorem dX1_bestRow_0 : decode cX1_bestRow 0 = .ok (.aload_n 2, 1) := by decide +kernel
theorem dX1_bestRow_1 : decode cX1_bestRow 1 = .ok (.getfield 34, 3) := by decide +kernel
theorem dX1_bestRow_4 : decode cX1_bestRow 4 = .ok (.aload_n 0, 1) := by decide +kernel
theorem dX1_bestRow_5 : decode cX1_bestRow 5 = .ok (.aload_n 1, 1) := by decide +kernel
theorem dX1_bestRow_6 : decode cX1_bestRow 6 = .ok (.aload_n 2, 1) := by decide +kernel
theorem dX1_bestRow_7 : decode cX1_bestRow 7 = .ok (.iload_n 3, 1) := by decide +kernel
theorem dX1_bestRow_8 : decode cX1_bestRow 8 = .ok (.invokevirtual 38, 3) := by decide +kernel
theorem dX1_bestRow_11 : decode cX1_bestRow 11 = .ok (.iadd, 1) := by decide +kernel
theorem dX1_bestRow_12 : decode cX1_bestRow 12 = .ok (.istore 4, 2) := by decide +kernel
theorem dX1_bestRow_14 : decode cX1_bestRow 14 = .ok (.iconst 1, 1) := by decide +kernel
theorem dX1_bestRow_15 : decode cX1_bestRow 15 = .ok (.istore 5, 2) := by decide +kernel
theorem dX1_bestRow_17 : decode cX1_bestRow 17 = .ok (.aload_n 0, 1) := by decide +kernel
theorem dX1_bestRow_18 : decode cX1_bestRow 18 = .ok (.getfield 22, 3) := by decide +kernel
theorem dX1_bestRow_21 : decode cX1_bestRow 21 = .ok (.aload_n 2, 1) := by decide +kernel
theorem dX1_bestRow_22 : decode cX1_bestRow 22 = .ok (.invokevirtual 26, 3) := by decide +kernel
theorem dX1_bestRow_25 : decode cX1_bestRow 25 = .ok (.iload_n 3, 1) := by decide +kernel
theorem dX1_bestRow_26 : decode cX1_bestRow 26 = .ok (.iconst 1, 1) := by decide +kernel
theorem dX1_bestRow_27 : decode cX1_bestRow 27 = .ok (.isub, 1) := by decide +kernel
theorem dX1_bestRow_28 : decode cX1_bestRow 28 = .ok (.istore 6, 2) := by decide +kernel
theorem dX1_bestRow_30 : decode cX1_bestRow 30 = .ok (.iload 6, 2) := by decide +kernel
theorem dX1_bestRow_32 : decode cX1_bestRow 32 = .ok (.ifCond .lt 41, 3) := by decide +kernel
theorem dX1_bestRow_35 : decode cX1_bestRow 35 = .ok (.aload_n 0, 1) := by decide +kernel
theorem dX1_bestRow_36 : decode cX1_bestRow 36 = .ok (.aload_n 1, 1) := by decide +kernel
theorem dX1_bestRow_37 : decode cX1_bestRow 37 = .ok (.iload 4, 2) := by decide +kernel
theorem dX1_bestRow_39 : decode cX1_bestRow 39 = .ok (.iload 6, 2) := by decide +kernel
theorem dX1_bestRow_41 : decode cX1_bestRow 41 = .ok (.invokevirtual 42, 3) := by decide +kernel
theorem dX1_bestRow_44 : decode cX1_bestRow 44 = .ok (.istore 7, 2) := by decide +kernel
theorem dX1_bestRow_46 : decode cX1_bestRow 46 = .ok (.aload_n 0, 1) := by decide +kernel
theorem dX1_bestRow_47 : decode cX1_bestRow 47 = .ok (.getfield 22, 3) := by decide +kernel
theorem dX1_bestRow_50 : decode cX1_bestRow 50 = .ok (.aload_n 1, 1) := by decide +kernel
theorem dX1_bestRow_51 : decode cX1_bestRow 51 = .ok (.iload 7, 2) := by decide +kernel
theorem dX1_bestRow_53 : decode cX1_bestRow 53 = .ok (.invokevirtual 46, 3) := by decide +kernel
theorem dX1_bestRow_56 : decode cX1_bestRow 56 = .ok (.pop, 1) := by decide +kernel
theorem dX1_bestRow_57 : decode cX1_bestRow 57 = .ok (.iload 5, 2) := by decide +kernel
theorem dX1_bestRow_59 : decode cX1_bestRow 59 = .ok (.bipush 10, 2) := by decide +kernel
theorem dX1_bestRow_61 : decode cX1_bestRow 61 = .ok (.imul, 1) := by decide +kernel
theorem dX1_bestRow_62 : decode cX1_bestRow 62 = .ok (.iload 7, 2) := by decide +kernel
theorem dX1_bestRow_64 : decode cX1_bestRow 64 = .ok (.iadd, 1) := by decide +kernel
theorem dX1_bestRow_65 : decode cX1_bestRow 65 = .ok (.istore 5, 2) := by decide +kernel
theorem dX1_bestRow_67 : decode cX1_bestRow 67 = .ok (.iinc 6 (-1), 3) := by decide +kernel
theorem dX1_bestRow_70 : decode cX1_bestRow 70 = .ok (.goto (-40), 3) := by decide +kernel
theorem dX1_bestRow_73 : decode cX1_bestRow 73 = .ok (.iload 5, 2) := by decide +kernel
theorem dX1_bestRow_75 : decode cX1_bestRow 75 = .ok (.ireturn, 1) := by decide +kernel
theorem dX1_firstTurnTo_0 : decode cX1_firstTurnTo 0 = .ok (.iconst 0, 1) := by decide +kernel
theorem dX1_firstTurnTo_1 : decode cX1_firstTurnTo 1 = .ok (.istore 4, 2) := by decide +kernel
theorem dX1_firstTurnTo_3 : decode cX1_firstTurnTo 3 = .ok (.iload 4, 2) := by decide +kernel
theorem dX1_firstTurnTo_5 : decode cX1_firstTurnTo 5 = .ok (.iconst 3, 1) := by decide +kernel
theorem dX1_firstTurnTo_6 : decode cX1_firstTurnTo 6 = .ok (.if_icmp .ge 73, 3) := by decide +kernel
theorem dX1_firstTurnTo_9 : decode cX1_firstTurnTo 9 = .ok (.iload_n 3, 1) := by decide +kernel
theorem dX1_firstTurnTo_10 : decode cX1_firstTurnTo 10 = .ok (.aload_n 0, 1) := by decide +kernel
theorem dX1_firstTurnTo_11 : decode cX1_firstTurnTo 11 = .ok (.getfield 13, 3) := by decide +kernel
theorem dX1_firstTurnTo_14 : decode cX1_firstTurnTo 14 = .ok (.arraylength, 1) := by decide +kernel
theorem dX1_firstTurnTo_15 : decode cX1_firstTurnTo 15 = .ok (.if_icmp .ge 64, 3) := by decide +kernel
theorem dX1_firstTurnTo_18 : decode cX1_firstTurnTo 18 = .ok (.aload_n 0, 1) := by decide +kernel
theorem dX1_firstTurnTo_19 : decode cX1_firstTurnTo 19 = .ok (.getfield 22, 3) := by decide +kernel
theorem dX1_firstTurnTo_22 : decode cX1_firstTurnTo 22 = .ok (.aload_n 1, 1) := by decide +kernel
theorem dX1_firstTurnTo_23 : decode cX1_firstTurnTo 23 = .ok (.iload 4, 2) := by decide +kernel
theorem dX1_firstTurnTo_25 : decode cX1_firstTurnTo 25 = .ok (.invokevirtual 50, 3) := by decide +kernel
theorem dX1_firstTurnTo_28 : decode cX1_firstTurnTo 28 = .ok (.ifCond .eq 45, 3) := by decide +kernel
theorem dX1_firstTurnTo_31 : decode cX1_firstTurnTo 31 = .ok (.aload_n 0, 1) := by decide +kernel
theorem dX1_firstTurnTo_32 : decode cX1_firstTurnTo 32 = .ok (.getfield 13, 3) := by decide +kernel
theorem dX1_firstTurnTo_35 : decode cX1_firstTurnTo 35 = .ok (.iload_n 3, 1) := by decide +kernel
theorem dX1_firstTurnTo_36 : decode cX1_firstTurnTo 36 = .ok (.aaload, 1) := by decide +kernel
theorem dX1_firstTurnTo_37 : decode cX1_firstTurnTo 37 = .ok (.aload_n 0, 1) := by decide +kernel
theorem dX1_firstTurnTo_38 : decode cX1_firstTurnTo 38 = .ok (.getfield 22, 3) := by decide +kernel
theorem dX1_firstTurnTo_41 : decode cX1_firstTurnTo 41 = .ok (.invokevirtual 26, 3) := by decide +kernel
theorem dX1_firstTurnTo_44 : decode cX1_firstTurnTo 44 = .ok (.aload_n 0, 1) := by decide +kernel
theorem dX1_firstTurnTo_45 : decode cX1_firstTurnTo 45 = .ok (.getfield 13, 3) := by decide +kernel
theorem dX1_firstTurnTo_48 : decode cX1_firstTurnTo 48 = .ok (.iload_n 3, 1) := by decide +kernel
theorem dX1_firstTurnTo_49 : decode cX1_firstTurnTo 49 = .ok (.aaload, 1) := by decide +kernel
theorem dX1_firstTurnTo_50 : decode cX1_firstTurnTo 50 = .ok (.aload_n 1, 1) := by decide +kernel
theorem dX1_firstTurnTo_51 : decode cX1_firstTurnTo 51 = .ok (.iload 4, 2) := by decide +kernel
theorem dX1_firstTurnTo_53 : decode cX1_firstTurnTo 53 = .ok (.invokevirtual 46, 3) := by decide +kernel
theorem dX1_firstTurnTo_56 : decode cX1_firstTurnTo 56 = .ok (.pop, 1) := by decide +kernel
theorem dX1_firstTurnTo_57 : decode cX1_firstTurnTo 57 = .ok (.aload_n 1, 1) := by decide +kernel
theorem dX1_firstTurnTo_58 : decode cX1_firstTurnTo 58 = .ok (.aload_n 0, 1) := by decide +kernel
theorem dX1_firstTurnTo_59 : decode cX1_firstTurnTo 59 = .ok (.getfield 13, 3) := by decide +kernel
theorem dX1_firstTurnTo_62 : decode cX1_firstTurnTo 62 = .ok (.iload_n 3, 1) := by decide +kernel
theorem dX1_firstTurnTo_63 : decode cX1_firstTurnTo 63 = .ok (.invokestatic 30, 3) := by decide +kernel
theorem dX1_firstTurnTo_66 : decode cX1_firstTurnTo 66 = .ok (.iload_n 2, 1) := by decide +kernel
theorem dX1_firstTurnTo_67 : decode cX1_firstTurnTo 67 = .ok (.if_icmp .ne 6, 3) := by decide +kernel
theorem dX1_firstTurnTo_70 : decode cX1_firstTurnTo 70 = .ok (.iload 4, 2) := by decide +kernel
theorem dX1_firstTurnTo_72 : decode cX1_firstTurnTo 72 = .ok (.ireturn, 1) := by decide +kernel
theorem dX1_firstTurnTo_73 : decode cX1_firstTurnTo 73 = .ok (.iinc 4 1, 3) := by decide +kernel
theorem dX1_firstTurnTo_76 : decode cX1_firstTurnTo 76 = .ok (.goto (-73), 3) := by decide +kernel
theorem dX1_firstTurnTo_79 : decode cX1_firstTurnTo 79 = .ok (.iconst 3, 1) := by decide +kernel
theorem dX1_firstTurnTo_80 : decode cX1_firstTurnTo 80 = .ok (.ireturn, 1) := by decide +kernel
theorem dX1_mostBelow_0 : decode cX1_mostBelow 0 = .ok (.iload_n 2, 1) := by decide +kernel
theorem dX1_mostBelow_1 : decode cX1_mostBelow 1 = .ok (.ifCond .lt 9, 3) := by decide +kernel
theorem dX1_mostBelow_4 : decode cX1_mostBelow 4 = .ok (.iload_n 2, 1) := by decide +kernel
theorem dX1_mostBelow_5 : decode cX1_mostBelow 5 = .ok (.aload_n 1, 1) := by decide +kernel
theorem dX1_mostBelow_6 : decode cX1_mostBelow 6 = .ok (.arraylength, 1) := by decide +kernel
theorem dX1_mostBelow_7 : decode cX1_mostBelow 7 = .ok (.if_icmp .lt 5, 3) := by decide +kernel
theorem dX1_mostBelow_10 : decode cX1_mostBelow 10 = .ok (.iconst 0, 1) := by decide +kernel
theorem dX1_mostBelow_11 : decode cX1_mostBelow 11 = .ok (.ireturn, 1) := by decide +kernel
theorem dX1_mostBelow_12 : decode cX1_mostBelow 12 = .ok (.aload_n 1, 1) := by decide +kernel
theorem dX1_mostBelow_13 : decode cX1_mostBelow 13 = .ok (.iload_n 2, 1) := by decide +kernel
theorem dX1_mostBelow_14 : decode cX1_mostBelow 14 = .ok (.aaload, 1) := by decide +kernel
theorem dX1_mostBelow_15 : decode cX1_mostBelow 15 = .ok (.astore_n 3, 1) := by decide +kernel
theorem dX1_mostBelow_16 : decode cX1_mostBelow 16 = .ok (.iload_n 2, 1) := by decide +kernel
theorem dX1_mostBelow_17 : decode cX1_mostBelow 17 = .ok (.ifCond .eq 12, 3) := by decide +kernel
theorem dX1_mostBelow_20 : decode cX1_mostBelow 20 = .ok (.aload_n 3, 1) := by decide +kernel
theorem dX1_mostBelow_21 : decode cX1_mostBelow 21 = .ok (.aload_n 0, 1) := by decide +kernel
theorem dX1_mostBelow_22 : decode cX1_mostBelow 22 = .ok (.iconst 2, 1) := by decide +kernel
theorem dX1_mostBelow_23 : decode cX1_mostBelow 23 = .ok (.invokevirtual 50, 3) := by decide +kernel
theorem dX1_mostBelow_26 : decode cX1_mostBelow 26 = .ok (.ifCond .ne 8, 3) := by decide +kernel
theorem dX1_mostBelow_29 : decode cX1_mostBelow 29 = .ok (.aload_n 3, 1) := by decide +kernel
theorem dX1_mostBelow_30 : decode cX1_mostBelow 30 = .ok (.getfield 34, 3) := by decide +kernel
theorem dX1_mostBelow_33 : decode cX1_mostBelow 33 = .ok (.ireturn, 1) := by decide +kernel
theorem dX1_mostBelow_34 : decode cX1_mostBelow 34 = .ok (.iload_n 2, 1) := by decide +kernel
theorem dX1_mostBelow_35 : decode cX1_mostBelow 35 = .ok (.iconst 1, 1) := by decide +kernel
theorem dX1_mostBelow_36 : decode cX1_mostBelow 36 = .ok (.if_icmp .ne 14, 3) := by decide +kernel
theorem dX1_mostBelow_39 : decode cX1_mostBelow 39 = .ok (.aload_n 3, 1) := by decide +kernel
theorem dX1_mostBelow_40 : decode cX1_mostBelow 40 = .ok (.getfield 34, 3) := by decide +kernel
theorem dX1_mostBelow_43 : decode cX1_mostBelow 43 = .ok (.aload_n 3, 1) := by decide +kernel
theorem dX1_mostBelow_44 : decode cX1_mostBelow 44 = .ok (.aload_n 0, 1) := by decide +kernel
theorem dX1_mostBelow_45 : decode cX1_mostBelow 45 = .ok (.invokevirtual 54, 3) := by decide +kernel
theorem dX1_mostBelow_48 : decode cX1_mostBelow 48 = .ok (.iadd, 1) := by decide +kernel
theorem dX1_mostBelow_49 : decode cX1_mostBelow 49 = .ok (.ireturn, 1) := by decide +kernel
theorem dX1_mostBelow_50 : decode cX1_mostBelow 50 = .ok (.aload_n 3, 1) := by decide +kernel
theorem dX1_mostBelow_51 : decode cX1_mostBelow 51 = .ok (.getfield 34, 3) := by decide +kernel
theorem dX1_mostBelow_54 : decode cX1_mostBelow 54 = .ok (.istore 4, 2) := by decide +kernel
theorem dX1_mostBelow_56 : decode cX1_mostBelow 56 = .ok (.iconst 0, 1) := by decide +kernel
theorem dX1_mostBelow_57 : decode cX1_mostBelow 57 = .ok (.istore 5, 2) := by decide +kernel
theorem dX1_mostBelow_59 : decode cX1_mostBelow 59 = .ok (.iload 5, 2) := by decide +kernel
theorem dX1_mostBelow_61 : decode cX1_mostBelow 61 = .ok (.iconst 3, 1) := by decide +kernel
theorem dX1_mostBelow_62 : decode cX1_mostBelow 62 = .ok (.if_icmp .gt 55, 3) := by decide +kernel
theorem dX1_mostBelow_65 : decode cX1_mostBelow 65 = .ok (.aload_n 3, 1) := by decide +kernel
theorem dX1_mostBelow_66 : decode cX1_mostBelow 66 = .ok (.aload_n 0, 1) := by decide +kernel
theorem dX1_mostBelow_67 : decode cX1_mostBelow 67 = .ok (.iload 5, 2) := by decide +kernel
theorem dX1_mostBelow_69 : decode cX1_mostBelow 69 = .ok (.invokevirtual 50, 3) := by decide +kernel
theorem dX1_mostBelow_72 : decode cX1_mostBelow 72 = .ok (.ifCond .eq 39, 3) := by decide +kernel
theorem dX1_mostBelow_75 : decode cX1_mostBelow 75 = .ok (.aload_n 1, 1) := by decide +kernel
theorem dX1_mostBelow_76 : decode cX1_mostBelow 76 = .ok (.iload_n 2, 1) := by decide +kernel
theorem dX1_mostBelow_77 : decode cX1_mostBelow 77 = .ok (.iconst 1, 1) := by decide +kernel
theorem dX1_mostBelow_78 : decode cX1_mostBelow 78 = .ok (.isub, 1) := by decide +kernel
theorem dX1_mostBelow_79 : decode cX1_mostBelow 79 = .ok (.aaload, 1) := by decide +kernel
theorem dX1_mostBelow_80 : decode cX1_mostBelow 80 = .ok (.aload_n 3, 1) := by decide +kernel
theorem dX1_mostBelow_81 : decode cX1_mostBelow 81 = .ok (.invokevirtual 26, 3) := by decide +kernel
theorem dX1_mostBelow_84 : decode cX1_mostBelow 84 = .ok (.aload_n 1, 1) := by decide +kernel
theorem dX1_mostBelow_85 : decode cX1_mostBelow 85 = .ok (.iload_n 2, 1) := by decide +kernel
theorem dX1_mostBelow_86 : decode cX1_mostBelow 86 = .ok (.iconst 1, 1) := by decide +kernel
theorem dX1_mostBelow_87 : decode cX1_mostBelow 87 = .ok (.isub, 1) := by decide +kernel
theorem dX1_mostBelow_88 : decode cX1_mostBelow 88 = .ok (.aaload, 1) := by decide +kernel
theorem dX1_mostBelow_89 : decode cX1_mostBelow 89 = .ok (.aload_n 0, 1) := by decide +kernel
theorem dX1_mostBelow_90 : decode cX1_mostBelow 90 = .ok (.iload 5, 2) := by decide +kernel
theorem dX1_mostBelow_92 : decode cX1_mostBelow 92 = .ok (.invokevirtual 46, 3) := by decide +kernel
theorem dX1_mostBelow_95 : decode cX1_mostBelow 95 = .ok (.pop, 1) := by decide +kernel
theorem dX1_mostBelow_96 : decode cX1_mostBelow 96 = .ok (.iload 4, 2) := by decide +kernel
theorem dX1_mostBelow_98 : decode cX1_mostBelow 98 = .ok (.aload_n 0, 1) := by decide +kernel
theorem dX1_mostBelow_99 : decode cX1_mostBelow 99 = .ok (.aload_n 1, 1) := by decide +kernel
theorem dX1_mostBelow_100 : decode cX1_mostBelow 100 = .ok (.iload_n 2, 1) := by decide +kernel
theorem dX1_mostBelow_101 : decode cX1_mostBelow 101 = .ok (.iconst 1, 1) := by decide +kernel
theorem dX1_mostBelow_102 : decode cX1_mostBelow 102 = .ok (.isub, 1) := by decide +kernel
theorem dX1_mostBelow_103 : decode cX1_mostBelow 103 = .ok (.invokestatic 30, 3) := by decide +kernel
theorem dX1_mostBelow_106 : decode cX1_mostBelow 106 = .ok (.invokestatic 58, 3) := by decide +kernel
theorem dX1_mostBelow_109 : decode cX1_mostBelow 109 = .ok (.istore 4, 2) := by decide +kernel
theorem dX1_mostBelow_111 : decode cX1_mostBelow 111 = .ok (.iinc 5 1, 3) := by decide +kernel
theorem dX1_mostBelow_114 : decode cX1_mostBelow 114 = .ok (.goto (-55), 3) := by decide +kernel
theorem dX1_mostBelow_117 : decode cX1_mostBelow 117 = .ok (.iload 4, 2) := by decide +kernel
theorem dX1_mostBelow_119 : decode cX1_mostBelow 119 = .ok (.ireturn, 1) := by decide +kernel
theorem dX2_init_0 : decode cX2_init 0 = .ok (.aload_n 0, 1) := by decide +kernel
theorem dX2_init_1 : decode cX2_init 1 = .ok (.invokespecial 3, 3) := by decide +kernel
theorem dX2_init_4 : decode cX2_init 4 = .ok (.aload_n 0, 1) := by decide +kernel
theorem dX2_init_5 : decode cX2_init 5 = .ok (.bipush 6, 2) := by decide +kernel
theorem dX2_init_7 : decode cX2_init 7 = .ok (.newarray .int, 2) := by decide +kernel
theorem dX2_init_9 : decode cX2_init 9 = .ok (.putfield 9, 3) := by decide +kernel
theorem dX2_init_12 : decode cX2_init 12 = .ok (.aload_n 0, 1) := by decide +kernel
theorem dX2_init_13 : decode cX2_init 13 = .ok (.bipush 6, 2) := by decide +kernel
theorem dX2_init_15 : decode cX2_init 15 = .ok (.newarray .int, 2) := by decide +kernel
theorem dX2_init_17 : decode cX2_init 17 = .ok (.putfield 15, 3) := by decide +kernel
theorem dX2_init_20 : decode cX2_init 20 = .ok (.aload_n 0, 1) := by decide +kernel
theorem dX2_init_21 : decode cX2_init 21 = .ok (.bipush 6, 2) := by decide +kernel
theorem dX2_init_23 : decode cX2_init 23 = .ok (.newarray .int, 2) := by decide +kernel
theorem dX2_init_25 : decode cX2_init 25 = .ok (.putfield 18, 3) := by decide +kernel
theorem dX2_init_28 : decode cX2_init 28 = .ok (.aload_n 0, 1) := by decide +kernel
theorem dX2_init_29 : decode cX2_init 29 = .ok (.bipush 6, 2) := by decide +kernel
theorem dX2_init_31 : decode cX2_init 31 = .ok (.newarray .int, 2) := by decide +kernel
theorem dX2_init_33 : decode cX2_init 33 = .ok (.putfield 21, 3) := by decide +kernel
theorem dX2_init_36 : decode cX2_init 36 = .ok (.aload_n 0, 1) := by decide +kernel
theorem dX2_init_37 : decode cX2_init 37 = .ok (.iconst 0, 1) := by decide +kernel
theorem dX2_init_38 : decode cX2_init 38 = .ok (.putfield 24, 3) := by decide +kernel
theorem dX2_init_41 : decode cX2_init 41 = .ok (.return_, 1) := by decide +kernel
theorem dX2_add_0 : decode cX2_add 0 = .ok (.aload_n 0, 1) := by decide +kernel
theorem dX2_add_1 : decode cX2_add 1 = .ok (.getfield 24, 3) := by decide +kernel
theorem dX2_add_4 : decode cX2_add 4 = .ok (.ifCond .lt 63, 3) := by decide +kernel
theorem dX2_add_7 : decode cX2_add 7 = .ok (.aload_n 0, 1) := by decide +kernel
theorem dX2_add_8 : decode cX2_add 8 = .ok (.getfield 24, 3) := by decide +kernel
theorem dX2_add_11 : decode cX2_add 11 = .ok (.bipush 6, 2) := by decide +kernel
theorem dX2_add_13 : decode cX2_add 13 = .ok (.if_icmp .ge 54, 3) := by decide +kernel
theorem dX2_add_16 : decode cX2_add 16 = .ok (.aload_n 0, 1) := by decide +kernel
theorem dX2_add_17 : decode cX2_add 17 = .ok (.getfield 9, 3) := by decide +kernel
theorem dX2_add_20 : decode cX2_add 20 = .ok (.aload_n 0, 1) := by decide +kernel
theorem dX2_add_21 : decode cX2_add 21 = .ok (.getfield 24, 3) := by decide +kernel
theorem dX2_add_24 : decode cX2_add 24 = .ok (.iload_n 1, 1) := by decide +kernel
theorem dX2_add_25 : decode cX2_add 25 = .ok (.iastore, 1) := by decide +kernel
theorem dX2_add_26 : decode cX2_add 26 = .ok (.aload_n 0, 1) := by decide +kernel
theorem dX2_add_27 : decode cX2_add 27 = .ok (.getfield 15, 3) := by decide +kernel
theorem dX2_add_30 : decode cX2_add 30 = .ok (.aload_n 0, 1) := by decide +kernel
theorem dX2_add_31 : decode cX2_add 31 = .ok (.getfield 24, 3) := by decide +kernel
theorem dX2_add_34 : decode cX2_add 34 = .ok (.iload_n 2, 1) := by decide +kernel
theorem dX2_add_35 : decode cX2_add 35 = .ok (.iastore, 1) := by decide +kernel
theorem dX2_add_36 : decode cX2_add 36 = .ok (.aload_n 0, 1) := by decide +kernel
theorem dX2_add_37 : decode cX2_add 37 = .ok (.getfield 18, 3) := by decide +kernel
theorem dX2_add_40 : decode cX2_add 40 = .ok (.aload_n 0, 1) := by decide +kernel
theorem dX2_add_41 : decode cX2_add 41 = .ok (.getfield 24, 3) := by decide +kernel
theorem dX2_add_44 : decode cX2_add 44 = .ok (.iload_n 3, 1) := by decide +kernel
theorem dX2_add_45 : decode cX2_add 45 = .ok (.iastore, 1) := by decide +kernel
theorem dX2_add_46 : decode cX2_add 46 = .ok (.aload_n 0, 1) := by decide +kernel
theorem dX2_add_47 : decode cX2_add 47 = .ok (.getfield 21, 3) := by decide +kernel
theorem dX2_add_50 : decode cX2_add 50 = .ok (.aload_n 0, 1) := by decide +kernel
theorem dX2_add_51 : decode cX2_add 51 = .ok (.getfield 24, 3) := by decide +kernel
theorem dX2_add_54 : decode cX2_add 54 = .ok (.iload 4, 2) := by decide +kernel
theorem dX2_add_56 : decode cX2_add 56 = .ok (.iastore, 1) := by decide +kernel
theorem dX2_add_57 : decode cX2_add 57 = .ok (.aload_n 0, 1) := by decide +kernel
theorem dX2_add_58 : decode cX2_add 58 = .ok (.dup, 1) := by decide +kernel
theorem dX2_add_59 : decode cX2_add 59 = .ok (.getfield 24, 3) := by decide +kernel
theorem dX2_add_62 : decode cX2_add 62 = .ok (.iconst 1, 1) := by decide +kernel
theorem dX2_add_63 : decode cX2_add 63 = .ok (.iadd, 1) := by decide +kernel
theorem dX2_add_64 : decode cX2_add 64 = .ok (.putfield 24, 3) := by decide +kernel
theorem dX2_add_67 : decode cX2_add 67 = .ok (.return_, 1) := by decide +kernel
theorem dX2_allows_0 : decode cX2_allows 0 = .ok (.iconst 0, 1) := by decide +kernel
theorem dX2_allows_1 : decode cX2_allows 1 = .ok (.istore_n 3, 1) := by decide +kernel
theorem dX2_allows_2 : decode cX2_allows 2 = .ok (.iload_n 3, 1) := by decide +kernel
theorem dX2_allows_3 : decode cX2_allows 3 = .ok (.aload_n 0, 1) := by decide +kernel
theorem dX2_allows_4 : decode cX2_allows 4 = .ok (.getfield 24, 3) := by decide +kernel
theorem dX2_allows_7 : decode cX2_allows 7 = .ok (.if_icmp .ge 52, 3) := by decide +kernel
theorem dX2_allows_10 : decode cX2_allows 10 = .ok (.iload_n 3, 1) := by decide +kernel
theorem dX2_allows_11 : decode cX2_allows 11 = .ok (.bipush 6, 2) := by decide +kernel
theorem dX2_allows_13 : decode cX2_allows 13 = .ok (.if_icmp .ge 46, 3) := by decide +kernel
theorem dX2_allows_16 : decode cX2_allows 16 = .ok (.aload_n 0, 1) := by decide +kernel
theorem dX2_allows_17 : decode cX2_allows 17 = .ok (.getfield 9, 3) := by decide +kernel
theorem dX2_allows_20 : decode cX2_allows 20 = .ok (.iload_n 3, 1) := by decide +kernel
theorem dX2_allows_21 : decode cX2_allows 21 = .ok (.iaload, 1) := by decide +kernel
theorem dX2_allows_22 : decode cX2_allows 22 = .ok (.iload_n 1, 1) := by decide +kernel
theorem dX2_allows_23 : decode cX2_allows 23 = .ok (.if_icmp .ne 30, 3) := by decide +kernel
theorem dX2_allows_26 : decode cX2_allows 26 = .ok (.iload_n 2, 1) := by decide +kernel
theorem dX2_allows_27 : decode cX2_allows 27 = .ok (.aload_n 0, 1) := by decide +kernel
theorem dX2_allows_28 : decode cX2_allows 28 = .ok (.getfield 15, 3) := by decide +kernel
theorem dX2_allows_31 : decode cX2_allows 31 = .ok (.iload_n 3, 1) := by decide +kernel
theorem dX2_allows_32 : decode cX2_allows 32 = .ok (.iaload, 1) := by decide +kernel
theorem dX2_allows_33 : decode cX2_allows 33 = .ok (.aload_n 0, 1) := by decide +kernel
theorem dX2_allows_34 : decode cX2_allows 34 = .ok (.getfield 18, 3) := by decide +kernel
theorem dX2_allows_37 : decode cX2_allows 37 = .ok (.iload_n 3, 1) := by decide +kernel
theorem dX2_allows_38 : decode cX2_allows 38 = .ok (.iaload, 1) := by decide +kernel
theorem dX2_allows_39 : decode cX2_allows 39 = .ok (.invokestatic 28, 3) := by decide +kernel
theorem dX2_allows_42 : decode cX2_allows 42 = .ok (.aload_n 0, 1) := by decide +kernel
theorem dX2_allows_43 : decode cX2_allows 43 = .ok (.getfield 21, 3) := by decide +kernel
theorem dX2_allows_46 : decode cX2_allows 46 = .ok (.iload_n 3, 1) := by decide +kernel
theorem dX2_allows_47 : decode cX2_allows 47 = .ok (.iaload, 1) := by decide +kernel
theorem dX2_allows_48 : decode cX2_allows 48 = .ok (.if_icmp .eq 5, 3) := by decide +kernel
theorem dX2_allows_51 : decode cX2_allows 51 = .ok (.iconst 0, 1) := by decide +kernel
theorem dX2_allows_52 : decode cX2_allows 52 = .ok (.ireturn, 1) := by decide +kernel
theorem dX2_allows_53 : decode cX2_allows 53 = .ok (.iinc 3 1, 3) := by decide +kernel
theorem dX2_allows_56 : decode cX2_allows 56 = .ok (.goto (-54), 3) := by decide +kernel
theorem dX2_allows_59 : decode cX2_allows 59 = .ok (.iconst 1, 1) := by decide +kernel
theorem dX2_allows_60 : decode cX2_allows 60 = .ok (.ireturn, 1) := by decide +kernel
theorem dX3_init_0 : decode cX3_init 0 = .ok (.aload_n 0, 1) := by decide +kernel
theorem dX3_init_1 : decode cX3_init 1 = .ok (.invokespecial 3, 3) := by decide +kernel
theorem dX3_init_4 : decode cX3_init 4 = .ok (.aload_n 0, 1) := by decide +kernel
theorem dX3_init_5 : decode cX3_init 5 = .ok (.iconst 0, 1) := by decide +kernel
theorem dX3_init_6 : decode cX3_init 6 = .ok (.putfield 9, 3) := by decide +kernel
theorem dX3_init_9 : decode cX3_init 9 = .ok (.aload_n 0, 1) := by decide +kernel
theorem dX3_init_10 : decode cX3_init 10 = .ok (.iconst 0, 1) := by decide +kernel
theorem dX3_init_11 : decode cX3_init 11 = .ok (.putfield 15, 3) := by decide +kernel
theorem dX3_init_14 : decode cX3_init 14 = .ok (.aload_n 0, 1) := by decide +kernel
theorem dX3_init_15 : decode cX3_init 15 = .ok (.iconst 0, 1) := by decide +kernel
theorem dX3_init_16 : decode cX3_init 16 = .ok (.putfield 18, 3) := by decide +kernel
theorem dX3_init_19 : decode cX3_init 19 = .ok (.aload_n 0, 1) := by decide +kernel
theorem dX3_init_20 : decode cX3_init 20 = .ok (.iconst 0, 1) := by decide +kernel
theorem dX3_init_21 : decode cX3_init 21 = .ok (.putfield 21, 3) := by decide +kernel
theorem dX3_init_24 : decode cX3_init 24 = .ok (.aload_n 0, 1) := by decide +kernel
theorem dX3_init_25 : decode cX3_init 25 = .ok (.iconst 0, 1) := by decide +kernel
theorem dX3_init_26 : decode cX3_init 26 = .ok (.putfield 24, 3) := by decide +kernel
theorem dX3_init_29 : decode cX3_init 29 = .ok (.aload_n 0, 1) := by decide +kernel
theorem dX3_init_30 : decode cX3_init 30 = .ok (.iconst 0, 1) := by decide +kernel
theorem dX3_init_31 : decode cX3_init 31 = .ok (.putfield 27, 3) := by decide +kernel
theorem dX3_init_34 : decode cX3_init 34 = .ok (.aload_n 0, 1) := by decide +kernel
theorem dX3_init_35 : decode cX3_init 35 = .ok (.iconst 0, 1) := by decide +kernel
theorem dX3_init_36 : decode cX3_init 36 = .ok (.putfield 30, 3) := by decide +kernel
theorem dX3_init_39 : decode cX3_init 39 = .ok (.return_, 1) := by decide +kernel
theorem dX3_begin_0 : decode cX3_begin 0 = .ok (.aload_n 0, 1) := by decide +kernel
theorem dX3_begin_1 : decode cX3_begin 1 = .ok (.iconst 0, 1) := by decide +kernel
theorem dX3_begin_2 : decode cX3_begin 2 = .ok (.putfield 9, 3) := by decide +kernel
theorem dX3_begin_5 : decode cX3_begin 5 = .ok (.aload_n 0, 1) := by decide +kernel
theorem dX3_begin_6 : decode cX3_begin 6 = .ok (.aload_n 1, 1) := by decide +kernel
theorem dX3_begin_7 : decode cX3_begin 7 = .ok (.getfield 33, 3) := by decide +kernel
theorem dX3_begin_10 : decode cX3_begin 10 = .ok (.putfield 15, 3) := by decide +kernel
theorem dX3_begin_13 : decode cX3_begin 13 = .ok (.aload_n 0, 1) := by decide +kernel
theorem dX3_begin_14 : decode cX3_begin 14 = .ok (.iconst 0, 1) := by decide +kernel
theorem dX3_begin_15 : decode cX3_begin 15 = .ok (.putfield 18, 3) := by decide +kernel
theorem dX3_begin_18 : decode cX3_begin 18 = .ok (.aload_n 0, 1) := by decide +kernel
theorem dX3_begin_19 : decode cX3_begin 19 = .ok (.iconst 0, 1) := by decide +kernel
theorem dX3_begin_20 : decode cX3_begin 20 = .ok (.putfield 21, 3) := by decide +kernel
theorem dX3_begin_23 : decode cX3_begin 23 = .ok (.aload_n 0, 1) := by decide +kernel
theorem dX3_begin_24 : decode cX3_begin 24 = .ok (.iconst 1, 1) := by decide +kernel
theorem dX3_begin_25 : decode cX3_begin 25 = .ok (.aload_n 1, 1) := by decide +kernel
theorem dX3_begin_26 : decode cX3_begin 26 = .ok (.getfield 36, 3) := by decide +kernel
theorem dX3_begin_29 : decode cX3_begin 29 = .ok (.ishl, 1) := by decide +kernel
theorem dX3_begin_30 : decode cX3_begin 30 = .ok (.iconst 1, 1) := by decide +kernel
theorem dX3_begin_31 : decode cX3_begin 31 = .ok (.isub, 1) := by decide +kernel
theorem dX3_begin_32 : decode cX3_begin 32 = .ok (.putfield 24, 3) := by decide +kernel
theorem dX3_begin_35 : decode cX3_begin 35 = .ok (.aload_n 0, 1) := by decide +kernel
theorem dX3_begin_36 : decode cX3_begin 36 = .ok (.iconst 0, 1) := by decide +kernel
theorem dX3_begin_37 : decode cX3_begin 37 = .ok (.putfield 27, 3) := by decide +kernel
theorem dX3_begin_40 : decode cX3_begin 40 = .ok (.aload_n 0, 1) := by decide +kernel
theorem dX3_begin_41 : decode cX3_begin 41 = .ok (.iconst 0, 1) := by decide +kernel
theorem dX3_begin_42 : decode cX3_begin 42 = .ok (.putfield 30, 3) := by decide +kernel
theorem dX3_begin_45 : decode cX3_begin 45 = .ok (.return_, 1) := by decide +kernel
theorem dX3_copy_0 : decode cX3_copy 0 = .ok (.aload_n 0, 1) := by decide +kernel
theorem dX3_copy_1 : decode cX3_copy 1 = .ok (.aload_n 1, 1) := by decide +kernel
theorem dX3_copy_2 : decode cX3_copy 2 = .ok (.getfield 9, 3) := by decide +kernel
theorem dX3_copy_5 : decode cX3_copy 5 = .ok (.putfield 9, 3) := by decide +kernel
theorem dX3_copy_8 : decode cX3_copy 8 = .ok (.aload_n 0, 1) := by decide +kernel
theorem dX3_copy_9 : decode cX3_copy 9 = .ok (.aload_n 1, 1) := by decide +kernel
theorem dX3_copy_10 : decode cX3_copy 10 = .ok (.getfield 15, 3) := by decide +kernel
theorem dX3_copy_13 : decode cX3_copy 13 = .ok (.putfield 15, 3) := by decide +kernel
theorem dX3_copy_16 : decode cX3_copy 16 = .ok (.aload_n 0, 1) := by decide +kernel
theorem dX3_copy_17 : decode cX3_copy 17 = .ok (.aload_n 1, 1) := by decide +kernel
theorem dX3_copy_18 : decode cX3_copy 18 = .ok (.getfield 18, 3) := by decide +kernel
theorem dX3_copy_21 : decode cX3_copy 21 = .ok (.putfield 18, 3) := by decide +kernel
theorem dX3_copy_24 : decode cX3_copy 24 = .ok (.aload_n 0, 1) := by decide +kernel
theorem dX3_copy_25 : decode cX3_copy 25 = .ok (.aload_n 1, 1) := by decide +kernel
theorem dX3_copy_26 : decode cX3_copy 26 = .ok (.getfield 21, 3) := by decide +kernel
theorem dX3_copy_29 : decode cX3_copy 29 = .ok (.putfield 21, 3) := by decide +kernel
theorem dX3_copy_32 : decode cX3_copy 32 = .ok (.aload_n 0, 1) := by decide +kernel
theorem dX3_copy_33 : decode cX3_copy 33 = .ok (.aload_n 1, 1) := by decide +kernel
theorem dX3_copy_34 : decode cX3_copy 34 = .ok (.getfield 24, 3) := by decide +kernel
theorem dX3_copy_37 : decode cX3_copy 37 = .ok (.putfield 24, 3) := by decide +kernel
theorem dX3_copy_40 : decode cX3_copy 40 = .ok (.aload_n 0, 1) := by decide +kernel
theorem dX3_copy_41 : decode cX3_copy 41 = .ok (.aload_n 1, 1) := by decide +kernel
theorem dX3_copy_42 : decode cX3_copy 42 = .ok (.getfield 27, 3) := by decide +kernel
theorem dX3_copy_45 : decode cX3_copy 45 = .ok (.putfield 27, 3) := by decide +kernel
theorem dX3_copy_48 : decode cX3_copy 48 = .ok (.aload_n 0, 1) := by decide +kernel
theorem dX3_copy_49 : decode cX3_copy 49 = .ok (.aload_n 1, 1) := by decide +kernel
theorem dX3_copy_50 : decode cX3_copy 50 = .ok (.getfield 30, 3) := by decide +kernel
theorem dX3_copy_53 : decode cX3_copy 53 = .ok (.putfield 30, 3) := by decide +kernel
theorem dX3_copy_56 : decode cX3_copy 56 = .ok (.return_, 1) := by decide +kernel
theorem dX3_readOf_0 : decode cX3_readOf 0 = .ok (.aload_n 0, 1) := by decide +kernel
theorem dX3_readOf_1 : decode cX3_readOf 1 = .ok (.getfield 30, 3) := by decide +kernel
theorem dX3_readOf_4 : decode cX3_readOf 4 = .ok (.iload_n 1, 1) := by decide +kernel
theorem dX3_readOf_5 : decode cX3_readOf 5 = .ok (.iconst 3, 1) := by decide +kernel
theorem dX3_readOf_6 : decode cX3_readOf 6 = .ok (.imul, 1) := by decide +kernel
theorem dX3_readOf_7 : decode cX3_readOf 7 = .ok (.ishr, 1) := by decide +kernel
theorem dX3_readOf_8 : decode cX3_readOf 8 = .ok (.bipush 7, 2) := by decide +kernel
theorem dX3_readOf_10 : decode cX3_readOf 10 = .ok (.iand, 1) := by decide +kernel
theorem dX3_readOf_11 : decode cX3_readOf 11 = .ok (.ireturn, 1) := by decide +kernel
theorem dX3_shown_0 : decode cX3_shown 0 = .ok (.aload_n 0, 1) := by decide +kernel
theorem dX3_shown_1 : decode cX3_shown 1 = .ok (.getfield 24, 3) := by decide +kernel
theorem dX3_shown_4 : decode cX3_shown 4 = .ok (.aload_n 0, 1) := by decide +kernel
theorem dX3_shown_5 : decode cX3_shown 5 = .ok (.getfield 27, 3) := by decide +kernel
theorem dX3_shown_8 : decode cX3_shown 8 = .ok (.iconst (-1), 1) := by decide +kernel
theorem dX3_shown_9 : decode cX3_shown 9 = .ok (.ixor, 1) := by decide +kernel
theorem dX3_shown_10 : decode cX3_shown 10 = .ok (.iand, 1) := by decide +kernel
theorem dX3_shown_11 : decode cX3_shown 11 = .ok (.iload_n 2, 1) := by decide +kernel
theorem dX3_shown_12 : decode cX3_shown 12 = .ok (.ishr, 1) := by decide +kernel
theorem dX3_shown_13 : decode cX3_shown 13 = .ok (.iconst 1, 1) := by decide +kernel
theorem dX3_shown_14 : decode cX3_shown 14 = .ok (.iand, 1) := by decide +kernel
theorem dX3_shown_15 : decode cX3_shown 15 = .ok (.ifCond .eq 7, 3) := by decide +kernel
theorem dX3_shown_18 : decode cX3_shown 18 = .ok (.iconst 1, 1) := by decide +kernel
theorem dX3_shown_19 : decode cX3_shown 19 = .ok (.goto 4, 3) := by decide +kernel
theorem dX3_shown_22 : decode cX3_shown 22 = .ok (.iconst 0, 1) := by decide +kernel
theorem dX3_shown_23 : decode cX3_shown 23 = .ok (.istore 4, 2) := by decide +kernel
theorem dX3_shown_25 : decode cX3_shown 25 = .ok (.iload_n 2, 1) := by decide +kernel
theorem dX3_shown_26 : decode cX3_shown 26 = .ok (.bipush 6, 2) := by decide +kernel
theorem dX3_shown_28 : decode cX3_shown 28 = .ok (.imul, 1) := by decide +kernel
theorem dX3_shown_29 : decode cX3_shown 29 = .ok (.iload_n 3, 1) := by decide +kernel
theorem dX3_shown_30 : decode cX3_shown 30 = .ok (.bipush 6, 2) := by decide +kernel
theorem dX3_shown_32 : decode cX3_shown 32 = .ok (.irem, 1) := by decide +kernel
theorem dX3_shown_33 : decode cX3_shown 33 = .ok (.iadd, 1) := by decide +kernel
theorem dX3_shown_34 : decode cX3_shown 34 = .ok (.istore 5, 2) := by decide +kernel
theorem dX3_shown_36 : decode cX3_shown 36 = .ok (.iload 4, 2) := by decide +kernel
theorem dX3_shown_38 : decode cX3_shown 38 = .ok (.ifCond .eq 28, 3) := by decide +kernel
theorem dX3_shown_41 : decode cX3_shown 41 = .ok (.iload 5, 2) := by decide +kernel
theorem dX3_shown_43 : decode cX3_shown 43 = .ok (.ifCond .lt 23, 3) := by decide +kernel
theorem dX3_shown_46 : decode cX3_shown 46 = .ok (.iload 5, 2) := by decide +kernel
theorem dX3_shown_48 : decode cX3_shown 48 = .ok (.aload_n 1, 1) := by decide +kernel
theorem dX3_shown_49 : decode cX3_shown 49 = .ok (.getfield 39, 3) := by decide +kernel
theorem dX3_shown_52 : decode cX3_shown 52 = .ok (.arraylength, 1) := by decide +kernel
theorem dX3_shown_53 : decode cX3_shown 53 = .ok (.if_icmp .ge 13, 3) := by decide +kernel
theorem dX3_shown_56 : decode cX3_shown 56 = .ok (.aload_n 1, 1) := by decide +kernel
theorem dX3_shown_57 : decode cX3_shown 57 = .ok (.getfield 39, 3) := by decide +kernel
theorem dX3_shown_60 : decode cX3_shown 60 = .ok (.iload 5, 2) := by decide +kernel
theorem dX3_shown_62 : decode cX3_shown 62 = .ok (.iaload, 1) := by decide +kernel
theorem dX3_shown_63 : decode cX3_shown 63 = .ok (.goto 4, 3) := by decide +kernel
theorem dX3_shown_66 : decode cX3_shown 66 = .ok (.iconst 0, 1) := by decide +kernel
theorem dX3_shown_67 : decode cX3_shown 67 = .ok (.ireturn, 1) := by decide +kernel
theorem dX3_can_0 : decode cX3_can 0 = .ok (.iload_n 2, 1) := by decide +kernel
theorem dX3_can_1 : decode cX3_can 1 = .ok (.tableswitch 83 0 2 #[27, 40, 59], 27) := by decide +kernel
theorem dX3_can_28 : decode cX3_can 28 = .ok (.aload_n 0, 1) := by decide +kernel
theorem dX3_can_29 : decode cX3_can 29 = .ok (.getfield 9, 3) := by decide +kernel
theorem dX3_can_32 : decode cX3_can 32 = .ok (.ifCond .le 7, 3) := by decide +kernel
theorem dX3_can_35 : decode cX3_can 35 = .ok (.iconst 1, 1) := by decide +kernel
theorem dX3_can_36 : decode cX3_can 36 = .ok (.goto 4, 3) := by decide +kernel
theorem dX3_can_39 : decode cX3_can 39 = .ok (.iconst 0, 1) := by decide +kernel
theorem dX3_can_40 : decode cX3_can 40 = .ok (.ireturn, 1) := by decide +kernel
theorem dX3_can_41 : decode cX3_can 41 = .ok (.aload_n 0, 1) := by decide +kernel
theorem dX3_can_42 : decode cX3_can 42 = .ok (.getfield 9, 3) := by decide +kernel
theorem dX3_can_45 : decode cX3_can 45 = .ok (.iconst 1, 1) := by decide +kernel
theorem dX3_can_46 : decode cX3_can 46 = .ok (.iadd, 1) := by decide +kernel
theorem dX3_can_47 : decode cX3_can 47 = .ok (.aload_n 1, 1) := by decide +kernel
theorem dX3_can_48 : decode cX3_can 48 = .ok (.getfield 36, 3) := by decide +kernel
theorem dX3_can_51 : decode cX3_can 51 = .ok (.if_icmp .ge 7, 3) := by decide +kernel
theorem dX3_can_54 : decode cX3_can 54 = .ok (.iconst 1, 1) := by decide +kernel
theorem dX3_can_55 : decode cX3_can 55 = .ok (.goto 4, 3) := by decide +kernel
theorem dX3_can_58 : decode cX3_can 58 = .ok (.iconst 0, 1) := by decide +kernel
theorem dX3_can_59 : decode cX3_can 59 = .ok (.ireturn, 1) := by decide +kernel
theorem dX3_can_60 : decode cX3_can 60 = .ok (.aload_n 0, 1) := by decide +kernel
theorem dX3_can_61 : decode cX3_can 61 = .ok (.getfield 9, 3) := by decide +kernel
theorem dX3_can_64 : decode cX3_can 64 = .ok (.aload_n 1, 1) := by decide +kernel
theorem dX3_can_65 : decode cX3_can 65 = .ok (.getfield 36, 3) := by decide +kernel
theorem dX3_can_68 : decode cX3_can 68 = .ok (.if_icmp .ge 14, 3) := by decide +kernel
theorem dX3_can_71 : decode cX3_can 71 = .ok (.aload_n 0, 1) := by decide +kernel
theorem dX3_can_72 : decode cX3_can 72 = .ok (.getfield 15, 3) := by decide +kernel
theorem dX3_can_75 : decode cX3_can 75 = .ok (.ifCond .le 7, 3) := by decide +kernel
theorem dX3_can_78 : decode cX3_can 78 = .ok (.iconst 1, 1) := by decide +kernel
theorem dX3_can_79 : decode cX3_can 79 = .ok (.goto 4, 3) := by decide +kernel
theorem dX3_can_82 : decode cX3_can 82 = .ok (.iconst 0, 1) := by decide +kernel
theorem dX3_can_83 : decode cX3_can 83 = .ok (.ireturn, 1) := by decide +kernel
theorem dX3_can_84 : decode cX3_can 84 = .ok (.iconst 1, 1) := by decide +kernel
theorem dX3_can_85 : decode cX3_can 85 = .ok (.ireturn, 1) := by decide +kernel
theorem dX3_take_0 : decode cX3_take 0 = .ok (.iconst 0, 1) := by decide +kernel
theorem dX3_take_1 : decode cX3_take 1 = .ok (.istore_n 3, 1) := by decide +kernel
theorem dX3_take_2 : decode cX3_take 2 = .ok (.iload_n 2, 1) := by decide +kernel
theorem dX3_take_3 : decode cX3_take 3 = .ok (.ifCond .ne 16, 3) := by decide +kernel
theorem dX3_take_6 : decode cX3_take 6 = .ok (.aload_n 0, 1) := by decide +kernel
theorem dX3_take_7 : decode cX3_take 7 = .ok (.dup, 1) := by decide +kernel
theorem dX3_take_8 : decode cX3_take 8 = .ok (.getfield 9, 3) := by decide +kernel
theorem dX3_take_11 : decode cX3_take 11 = .ok (.iconst 1, 1) := by decide +kernel
theorem dX3_take_12 : decode cX3_take 12 = .ok (.isub, 1) := by decide +kernel
theorem dX3_take_13 : decode cX3_take 13 = .ok (.putfield 9, 3) := by decide +kernel
theorem dX3_take_16 : decode cX3_take 16 = .ok (.goto 65, 3) := by decide +kernel
theorem dX3_take_19 : decode cX3_take 19 = .ok (.iload_n 2, 1) := by decide +kernel
theorem dX3_take_20 : decode cX3_take 20 = .ok (.iconst 1, 1) := by decide +kernel
theorem dX3_take_21 : decode cX3_take 21 = .ok (.if_icmp .ne 16, 3) := by decide +kernel
theorem dX3_take_24 : decode cX3_take 24 = .ok (.aload_n 0, 1) := by decide +kernel
theorem dX3_take_25 : decode cX3_take 25 = .ok (.dup, 1) := by decide +kernel
theorem dX3_take_26 : decode cX3_take 26 = .ok (.getfield 9, 3) := by decide +kernel
theorem dX3_take_29 : decode cX3_take 29 = .ok (.iconst 1, 1) := by decide +kernel
theorem dX3_take_30 : decode cX3_take 30 = .ok (.iadd, 1) := by decide +kernel
theorem dX3_take_31 : decode cX3_take 31 = .ok (.putfield 9, 3) := by decide +kernel
theorem dX3_take_34 : decode cX3_take 34 = .ok (.goto 47, 3) := by decide +kernel
theorem dX3_take_37 : decode cX3_take 37 = .ok (.iload_n 2, 1) := by decide +kernel
theorem dX3_take_38 : decode cX3_take 38 = .ok (.iconst 2, 1) := by decide +kernel
theorem dX3_take_39 : decode cX3_take 39 = .ok (.if_icmp .ne 42, 3) := by decide +kernel
theorem dX3_take_42 : decode cX3_take 42 = .ok (.aload_n 0, 1) := by decide +kernel
theorem dX3_take_43 : decode cX3_take 43 = .ok (.aload_n 1, 1) := by decide +kernel
theorem dX3_take_44 : decode cX3_take 44 = .ok (.invokevirtual 43, 3) := by decide +kernel
theorem dX3_take_47 : decode cX3_take 47 = .ok (.istore_n 3, 1) := by decide +kernel
theorem dX3_take_48 : decode cX3_take 48 = .ok (.aload_n 0, 1) := by decide +kernel
theorem dX3_take_49 : decode cX3_take 49 = .ok (.dup, 1) := by decide +kernel
theorem dX3_take_50 : decode cX3_take 50 = .ok (.getfield 15, 3) := by decide +kernel
theorem dX3_take_53 : decode cX3_take 53 = .ok (.iconst 1, 1) := by decide +kernel
theorem dX3_take_54 : decode cX3_take 54 = .ok (.isub, 1) := by decide +kernel
theorem dX3_take_55 : decode cX3_take 55 = .ok (.putfield 15, 3) := by decide +kernel
theorem dX3_take_58 : decode cX3_take 58 = .ok (.aload_n 0, 1) := by decide +kernel
theorem dX3_take_59 : decode cX3_take 59 = .ok (.dup, 1) := by decide +kernel
theorem dX3_take_60 : decode cX3_take 60 = .ok (.getfield 21, 3) := by decide +kernel
theorem dX3_take_63 : decode cX3_take 63 = .ok (.iload_n 3, 1) := by decide +kernel
theorem dX3_take_64 : decode cX3_take 64 = .ok (.iadd, 1) := by decide +kernel
theorem dX3_take_65 : decode cX3_take 65 = .ok (.putfield 21, 3) := by decide +kernel
theorem dX3_take_68 : decode cX3_take 68 = .ok (.aload_n 0, 1) := by decide +kernel
theorem dX3_take_69 : decode cX3_take 69 = .ok (.dup, 1) := by decide +kernel
theorem dX3_take_70 : decode cX3_take 70 = .ok (.getfield 30, 3) := by decide +kernel
theorem dX3_take_73 : decode cX3_take 73 = .ok (.aload_n 0, 1) := by decide +kernel
theorem dX3_take_74 : decode cX3_take 74 = .ok (.invokevirtual 47, 3) := by decide +kernel
theorem dX3_take_77 : decode cX3_take 77 = .ok (.ior, 1) := by decide +kernel
theorem dX3_take_78 : decode cX3_take 78 = .ok (.putfield 30, 3) := by decide +kernel
theorem dX3_take_81 : decode cX3_take 81 = .ok (.aload_n 0, 1) := by decide +kernel
theorem dX3_take_82 : decode cX3_take 82 = .ok (.dup, 1) := by decide +kernel
theorem dX3_take_83 : decode cX3_take 83 = .ok (.getfield 18, 3) := by decide +kernel
theorem dX3_take_86 : decode cX3_take 86 = .ok (.iconst 1, 1) := by decide +kernel
theorem dX3_take_87 : decode cX3_take 87 = .ok (.iadd, 1) := by decide +kernel
theorem dX3_take_88 : decode cX3_take 88 = .ok (.putfield 18, 3) := by decide +kernel
theorem dX3_take_91 : decode cX3_take 91 = .ok (.iload_n 3, 1) := by decide +kernel
theorem dX3_take_92 : decode cX3_take 92 = .ok (.ireturn, 1) := by decide +kernel
theorem dX3_gain_0 : decode cX3_gain 0 = .ok (.aload_n 0, 1) := by decide +kernel
theorem dX3_gain_1 : decode cX3_gain 1 = .ok (.getfield 30, 3) := by decide +kernel
theorem dX3_gain_4 : decode cX3_gain 4 = .ok (.aload_n 0, 1) := by decide +kernel
theorem dX3_gain_5 : decode cX3_gain 5 = .ok (.invokevirtual 47, 3) := by decide +kernel
theorem dX3_gain_8 : decode cX3_gain 8 = .ok (.iand, 1) := by decide +kernel
theorem dX3_gain_9 : decode cX3_gain 9 = .ok (.ifCond .eq 7, 3) := by decide +kernel
theorem dX3_gain_12 : decode cX3_gain 12 = .ok (.iconst 0, 1) := by decide +kernel
theorem dX3_gain_13 : decode cX3_gain 13 = .ok (.goto 16, 3) := by decide +kernel
theorem dX3_gain_16 : decode cX3_gain 16 = .ok (.aload_n 0, 1) := by decide +kernel
theorem dX3_gain_17 : decode cX3_gain 17 = .ok (.aload_n 1, 1) := by decide +kernel
theorem dX3_gain_18 : decode cX3_gain 18 = .ok (.aload_n 0, 1) := by decide +kernel
theorem dX3_gain_19 : decode cX3_gain 19 = .ok (.getfield 9, 3) := by decide +kernel
theorem dX3_gain_22 : decode cX3_gain 22 = .ok (.aload_n 0, 1) := by decide +kernel
theorem dX3_gain_23 : decode cX3_gain 23 = .ok (.getfield 18, 3) := by decide +kernel
theorem dX3_gain_26 : decode cX3_gain 26 = .ok (.invokevirtual 51, 3) := by decide +kernel
theorem dX3_gain_29 : decode cX3_gain 29 = .ok (.ireturn, 1) := by decide +kernel
theorem dX3_newsBit_0 : decode cX3_newsBit 0 = .ok (.iconst 1, 1) := by decide +kernel
theorem dX3_newsBit_1 : decode cX3_newsBit 1 = .ok (.aload_n 0, 1) := by decide +kernel
theorem dX3_newsBit_2 : decode cX3_newsBit 2 = .ok (.getfield 9, 3) := by decide +kernel
theorem dX3_newsBit_5 : decode cX3_newsBit 5 = .ok (.iconst 3, 1) := by decide +kernel
theorem dX3_newsBit_6 : decode cX3_newsBit 6 = .ok (.imul, 1) := by decide +kernel
theorem dX3_newsBit_7 : decode cX3_newsBit 7 = .ok (.aload_n 0, 1) := by decide +kernel
theorem dX3_newsBit_8 : decode cX3_newsBit 8 = .ok (.getfield 18, 3) := by decide +kernel
theorem dX3_newsBit_11 : decode cX3_newsBit 11 = .ok (.iconst 3, 1) := by decide +kernel
theorem dX3_newsBit_12 : decode cX3_newsBit 12 = .ok (.irem, 1) := by decide +kernel
theorem dX3_newsBit_13 : decode cX3_newsBit 13 = .ok (.iadd, 1) := by decide +kernel
theorem dX3_newsBit_14 : decode cX3_newsBit 14 = .ok (.ishl, 1) := by decide +kernel
theorem dX3_newsBit_15 : decode cX3_newsBit 15 = .ok (.ireturn, 1) := by decide +kernel
theorem dX4_init_0 : decode cX4_init 0 = .ok (.aload_n 0, 1) := by decide +kernel
theorem dX4_init_1 : decode cX4_init 1 = .ok (.invokespecial 3, 3) := by decide +kernel
theorem dX4_init_4 : decode cX4_init 4 = .ok (.aload_n 0, 1) := by decide +kernel
theorem dX4_init_5 : decode cX4_init 5 = .ok (.bipush 6, 2) := by decide +kernel
theorem dX4_init_7 : decode cX4_init 7 = .ok (.newarray .int, 2) := by decide +kernel
theorem dX4_init_9 : decode cX4_init 9 = .ok (.putfield 9, 3) := by decide +kernel
theorem dX4_init_12 : decode cX4_init 12 = .ok (.aload_n 0, 1) := by decide +kernel
theorem dX4_init_13 : decode cX4_init 13 = .ok (.bipush 18, 2) := by decide +kernel
theorem dX4_init_15 : decode cX4_init 15 = .ok (.newarray .int, 2) := by decide +kernel
theorem dX4_init_17 : decode cX4_init 17 = .ok (.putfield 15, 3) := by decide +kernel
theorem dX4_init_20 : decode cX4_init 20 = .ok (.aload_n 0, 1) := by decide +kernel
theorem dX4_init_21 : decode cX4_init 21 = .ok (.bipush 36, 2) := by decide +kernel
theorem dX4_init_23 : decode cX4_init 23 = .ok (.newarray .int, 2) := by decide +kernel
theorem dX4_init_25 : decode cX4_init 25 = .ok (.putfield 18, 3) := by decide +kernel
theorem dX4_init_28 : decode cX4_init 28 = .ok (.aload_n 0, 1) := by decide +kernel
theorem dX4_init_29 : decode cX4_init 29 = .ok (.iconst 0, 1) := by decide +kernel
theorem dX4_init_30 : decode cX4_init 30 = .ok (.putfield 21, 3) := by decide +kernel
theorem dX4_init_33 : decode cX4_init 33 = .ok (.aload_n 0, 1) := by decide +kernel
theorem dX4_init_34 : decode cX4_init 34 = .ok (.iconst 0, 1) := by decide +kernel
theorem dX4_init_35 : decode cX4_init 35 = .ok (.putfield 25, 3) := by decide +kernel
theorem dX4_init_38 : decode cX4_init 38 = .ok (.return_, 1) := by decide +kernel
theorem dX4_takeFrom_0 : decode cX4_takeFrom 0 = .ok (.aload_n 0, 1) := by decide +kernel
theorem dX4_takeFrom_1 : decode cX4_takeFrom 1 = .ok (.aload_n 1, 1) := by decide +kernel
theorem dX4_takeFrom_2 : decode cX4_takeFrom 2 = .ok (.iconst 1, 1) := by decide +kernel
theorem dX4_takeFrom_3 : decode cX4_takeFrom 3 = .ok (.invokevirtual 28, 3) := by decide +kernel
theorem dX4_takeFrom_6 : decode cX4_takeFrom 6 = .ok (.putfield 25, 3) := by decide +kernel
theorem dX4_takeFrom_9 : decode cX4_takeFrom 9 = .ok (.aload_n 0, 1) := by decide +kernel
theorem dX4_takeFrom_10 : decode cX4_takeFrom 10 = .ok (.aload_n 1, 1) := by decide +kernel
theorem dX4_takeFrom_11 : decode cX4_takeFrom 11 = .ok (.invokevirtual 34, 3) := by decide +kernel
theorem dX4_takeFrom_14 : decode cX4_takeFrom 14 = .ok (.bipush 6, 2) := by decide +kernel
theorem dX4_takeFrom_16 : decode cX4_takeFrom 16 = .ok (.invokestatic 38, 3) := by decide +kernel
theorem dX4_takeFrom_19 : decode cX4_takeFrom 19 = .ok (.putfield 21, 3) := by decide +kernel
theorem dX4_takeFrom_22 : decode cX4_takeFrom 22 = .ok (.iconst 0, 1) := by decide +kernel
theorem dX4_takeFrom_23 : decode cX4_takeFrom 23 = .ok (.istore_n 2, 1) := by decide +kernel
theorem dX4_takeFrom_24 : decode cX4_takeFrom 24 = .ok (.iload_n 2, 1) := by decide +kernel
theorem dX4_takeFrom_25 : decode cX4_takeFrom 25 = .ok (.aload_n 0, 1) := by decide +kernel
theorem dX4_takeFrom_26 : decode cX4_takeFrom 26 = .ok (.getfield 21, 3) := by decide +kernel
theorem dX4_takeFrom_29 : decode cX4_takeFrom 29 = .ok (.if_icmp .ge 110, 3) := by decide +kernel
theorem dX4_takeFrom_32 : decode cX4_takeFrom 32 = .ok (.iconst 2, 1) := by decide +kernel
theorem dX4_takeFrom_33 : decode cX4_takeFrom 33 = .ok (.iload_n 2, 1) := by decide +kernel
theorem dX4_takeFrom_34 : decode cX4_takeFrom 34 = .ok (.iconst 5, 1) := by decide +kernel
theorem dX4_takeFrom_35 : decode cX4_takeFrom 35 = .ok (.imul, 1) := by decide +kernel
theorem dX4_takeFrom_36 : decode cX4_takeFrom 36 = .ok (.iadd, 1) := by decide +kernel
theorem dX4_takeFrom_37 : decode cX4_takeFrom 37 = .ok (.istore_n 3, 1) := by decide +kernel
theorem dX4_takeFrom_38 : decode cX4_takeFrom 38 = .ok (.aload_n 0, 1) := by decide +kernel
theorem dX4_takeFrom_39 : decode cX4_takeFrom 39 = .ok (.getfield 9, 3) := by decide +kernel
theorem dX4_takeFrom_42 : decode cX4_takeFrom 42 = .ok (.iload_n 2, 1) := by decide +kernel
theorem dX4_takeFrom_43 : decode cX4_takeFrom 43 = .ok (.aload_n 1, 1) := by decide +kernel
theorem dX4_takeFrom_44 : decode cX4_takeFrom 44 = .ok (.iload_n 3, 1) := by decide +kernel
theorem dX4_takeFrom_45 : decode cX4_takeFrom 45 = .ok (.iconst 1, 1) := by decide +kernel
theorem dX4_takeFrom_46 : decode cX4_takeFrom 46 = .ok (.iadd, 1) := by decide +kernel
theorem dX4_takeFrom_47 : decode cX4_takeFrom 47 = .ok (.invokevirtual 28, 3) := by decide +kernel
theorem dX4_takeFrom_50 : decode cX4_takeFrom 50 = .ok (.iastore, 1) := by decide +kernel
theorem dX4_takeFrom_51 : decode cX4_takeFrom 51 = .ok (.iconst 0, 1) := by decide +kernel
theorem dX4_takeFrom_52 : decode cX4_takeFrom 52 = .ok (.istore 4, 2) := by decide +kernel
theorem dX4_takeFrom_54 : decode cX4_takeFrom 54 = .ok (.iload 4, 2) := by decide +kernel
theorem dX4_takeFrom_56 : decode cX4_takeFrom 56 = .ok (.iconst 3, 1) := by decide +kernel
theorem dX4_takeFrom_57 : decode cX4_takeFrom 57 = .ok (.if_icmp .ge 30, 3) := by decide +kernel
theorem dX4_takeFrom_60 : decode cX4_takeFrom 60 = .ok (.aload_n 0, 1) := by decide +kernel
theorem dX4_takeFrom_61 : decode cX4_takeFrom 61 = .ok (.getfield 15, 3) := by decide +kernel
theorem dX4_takeFrom_64 : decode cX4_takeFrom 64 = .ok (.iload_n 2, 1) := by decide +kernel
theorem dX4_takeFrom_65 : decode cX4_takeFrom 65 = .ok (.iconst 3, 1) := by decide +kernel
theorem dX4_takeFrom_66 : decode cX4_takeFrom 66 = .ok (.imul, 1) := by decide +kernel
theorem dX4_takeFrom_67 : decode cX4_takeFrom 67 = .ok (.iload 4, 2) := by decide +kernel
theorem dX4_takeFrom_69 : decode cX4_takeFrom 69 = .ok (.iadd, 1) := by decide +kernel
theorem dX4_takeFrom_70 : decode cX4_takeFrom 70 = .ok (.aload_n 1, 1) := by decide +kernel
theorem dX4_takeFrom_71 : decode cX4_takeFrom 71 = .ok (.iload_n 3, 1) := by decide +kernel
theorem dX4_takeFrom_72 : decode cX4_takeFrom 72 = .ok (.iconst 2, 1) := by decide +kernel
theorem dX4_takeFrom_73 : decode cX4_takeFrom 73 = .ok (.iadd, 1) := by decide +kernel
theorem dX4_takeFrom_74 : decode cX4_takeFrom 74 = .ok (.iload 4, 2) := by decide +kernel
theorem dX4_takeFrom_76 : decode cX4_takeFrom 76 = .ok (.iadd, 1) := by decide +kernel
theorem dX4_takeFrom_77 : decode cX4_takeFrom 77 = .ok (.invokevirtual 28, 3) := by decide +kernel
theorem dX4_takeFrom_80 : decode cX4_takeFrom 80 = .ok (.iastore, 1) := by decide +kernel
theorem dX4_takeFrom_81 : decode cX4_takeFrom 81 = .ok (.iinc 4 1, 3) := by decide +kernel
theorem dX4_takeFrom_84 : decode cX4_takeFrom 84 = .ok (.goto (-30), 3) := by decide +kernel
theorem dX4_takeFrom_87 : decode cX4_takeFrom 87 = .ok (.iconst 0, 1) := by decide +kernel
theorem dX4_takeFrom_88 : decode cX4_takeFrom 88 = .ok (.istore 4, 2) := by decide +kernel
theorem dX4_takeFrom_90 : decode cX4_takeFrom 90 = .ok (.iload 4, 2) := by decide +kernel
theorem dX4_takeFrom_92 : decode cX4_takeFrom 92 = .ok (.bipush 6, 2) := by decide +kernel
theorem dX4_takeFrom_94 : decode cX4_takeFrom 94 = .ok (.if_icmp .ge 39, 3) := by decide +kernel
theorem dX4_takeFrom_97 : decode cX4_takeFrom 97 = .ok (.aload_n 0, 1) := by decide +kernel
theorem dX4_takeFrom_98 : decode cX4_takeFrom 98 = .ok (.getfield 18, 3) := by decide +kernel
theorem dX4_takeFrom_101 : decode cX4_takeFrom 101 = .ok (.iload_n 2, 1) := by decide +kernel
theorem dX4_takeFrom_102 : decode cX4_takeFrom 102 = .ok (.bipush 6, 2) := by decide +kernel
theorem dX4_takeFrom_104 : decode cX4_takeFrom 104 = .ok (.imul, 1) := by decide +kernel
theorem dX4_takeFrom_105 : decode cX4_takeFrom 105 = .ok (.iload 4, 2) := by decide +kernel
theorem dX4_takeFrom_107 : decode cX4_takeFrom 107 = .ok (.iadd, 1) := by decide +kernel
theorem dX4_takeFrom_108 : decode cX4_takeFrom 108 = .ok (.aload_n 0, 1) := by decide +kernel
theorem dX4_takeFrom_109 : decode cX4_takeFrom 109 = .ok (.getfield 9, 3) := by decide +kernel
theorem dX4_takeFrom_112 : decode cX4_takeFrom 112 = .ok (.iload_n 2, 1) := by decide +kernel
theorem dX4_takeFrom_113 : decode cX4_takeFrom 113 = .ok (.iaload, 1) := by decide +kernel
theorem dX4_takeFrom_114 : decode cX4_takeFrom 114 = .ok (.aload_n 0, 1) := by decide +kernel
theorem dX4_takeFrom_115 : decode cX4_takeFrom 115 = .ok (.iload_n 2, 1) := by decide +kernel
theorem dX4_takeFrom_116 : decode cX4_takeFrom 116 = .ok (.iload 4, 2) := by decide +kernel
theorem dX4_takeFrom_118 : decode cX4_takeFrom 118 = .ok (.invokevirtual 44, 3) := by decide +kernel
theorem dX4_takeFrom_121 : decode cX4_takeFrom 121 = .ok (.iload 4, 2) := by decide +kernel
theorem dX4_takeFrom_123 : decode cX4_takeFrom 123 = .ok (.invokestatic 47, 3) := by decide +kernel
theorem dX4_takeFrom_126 : decode cX4_takeFrom 126 = .ok (.iastore, 1) := by decide +kernel
theorem dX4_takeFrom_127 : decode cX4_takeFrom 127 = .ok (.iinc 4 1, 3) := by decide +kernel
theorem dX4_takeFrom_130 : decode cX4_takeFrom 130 = .ok (.goto (-40), 3) := by decide +kernel
theorem dX4_takeFrom_133 : decode cX4_takeFrom 133 = .ok (.iinc 2 1, 3) := by decide +kernel
theorem dX4_takeFrom_136 : decode cX4_takeFrom 136 = .ok (.goto (-112), 3) := by decide +kernel
theorem dX4_takeFrom_139 : decode cX4_takeFrom 139 = .ok (.return_, 1) := by decide +kernel
theorem dX4_has_0 : decode cX4_has 0 = .ok (.iload_n 1, 1) := by decide +kernel
theorem dX4_has_1 : decode cX4_has 1 = .ok (.ifCond .lt 15, 3) := by decide +kernel
theorem dX4_has_4 : decode cX4_has 4 = .ok (.iload_n 1, 1) := by decide +kernel
theorem dX4_has_5 : decode cX4_has 5 = .ok (.aload_n 0, 1) := by decide +kernel
theorem dX4_has_6 : decode cX4_has 6 = .ok (.getfield 21, 3) := by decide +kernel
theorem dX4_has_9 : decode cX4_has 9 = .ok (.if_icmp .ge 7, 3) := by decide +kernel
theorem dX4_has_12 : decode cX4_has 12 = .ok (.iconst 1, 1) := by decide +kernel
theorem dX4_has_13 : decode cX4_has 13 = .ok (.goto 4, 3) := by decide +kernel
theorem dX4_has_16 : decode cX4_has 16 = .ok (.iconst 0, 1) := by decide +kernel
theorem dX4_has_17 : decode cX4_has 17 = .ok (.ireturn, 1) := by decide +kernel
theorem dX4_shapeOf_0 : decode cX4_shapeOf 0 = .ok (.aload_n 0, 1) := by decide +kernel
theorem dX4_shapeOf_1 : decode cX4_shapeOf 1 = .ok (.iload_n 1, 1) := by decide +kernel
theorem dX4_shapeOf_2 : decode cX4_shapeOf 2 = .ok (.invokevirtual 51, 3) := by decide +kernel
theorem dX4_shapeOf_5 : decode cX4_shapeOf 5 = .ok (.ifCond .eq 12, 3) := by decide +kernel
theorem dX4_shapeOf_8 : decode cX4_shapeOf 8 = .ok (.aload_n 0, 1) := by decide +kernel
theorem dX4_shapeOf_9 : decode cX4_shapeOf 9 = .ok (.getfield 9, 3) := by decide +kernel
theorem dX4_shapeOf_12 : decode cX4_shapeOf 12 = .ok (.iload_n 1, 1) := by decide +kernel
theorem dX4_shapeOf_13 : decode cX4_shapeOf 13 = .ok (.iaload, 1) := by decide +kernel
theorem dX4_shapeOf_14 : decode cX4_shapeOf 14 = .ok (.goto 4, 3) := by decide +kernel
theorem dX4_shapeOf_17 : decode cX4_shapeOf 17 = .ok (.iconst 0, 1) := by decide +kernel
theorem dX4_shapeOf_18 : decode cX4_shapeOf 18 = .ok (.ireturn, 1) := by decide +kernel
theorem dX4_newsOf_0 : decode cX4_newsOf 0 = .ok (.aload_n 0, 1) := by decide +kernel
theorem dX4_newsOf_1 : decode cX4_newsOf 1 = .ok (.iload_n 1, 1) := by decide +kernel
theorem dX4_newsOf_2 : decode cX4_newsOf 2 = .ok (.invokevirtual 51, 3) := by decide +kernel
theorem dX4_newsOf_5 : decode cX4_newsOf 5 = .ok (.ifCond .eq 20, 3) := by decide +kernel
theorem dX4_newsOf_8 : decode cX4_newsOf 8 = .ok (.aload_n 0, 1) := by decide +kernel
theorem dX4_newsOf_9 : decode cX4_newsOf 9 = .ok (.getfield 15, 3) := by decide +kernel
theorem dX4_newsOf_12 : decode cX4_newsOf 12 = .ok (.iload_n 1, 1) := by decide +kernel
theorem dX4_newsOf_13 : decode cX4_newsOf 13 = .ok (.iconst 3, 1) := by decide +kernel
theorem dX4_newsOf_14 : decode cX4_newsOf 14 = .ok (.imul, 1) := by decide +kernel
theorem dX4_newsOf_15 : decode cX4_newsOf 15 = .ok (.iload_n 2, 1) := by decide +kernel
theorem dX4_newsOf_16 : decode cX4_newsOf 16 = .ok (.iconst 3, 1) := by decide +kernel
theorem dX4_newsOf_17 : decode cX4_newsOf 17 = .ok (.invokestatic 55, 3) := by decide +kernel
theorem dX4_newsOf_20 : decode cX4_newsOf 20 = .ok (.iadd, 1) := by decide +kernel
theorem dX4_newsOf_21 : decode cX4_newsOf 21 = .ok (.iaload, 1) := by decide +kernel
theorem dX4_newsOf_22 : decode cX4_newsOf 22 = .ok (.goto 4, 3) := by decide +kernel
theorem dX4_newsOf_25 : decode cX4_newsOf 25 = .ok (.iconst 0, 1) := by decide +kernel
theorem dX4_newsOf_26 : decode cX4_newsOf 26 = .ok (.ireturn, 1) := by decide +kernel
theorem dX4_through_0 : decode cX4_through 0 = .ok (.iload_n 0, 1) := by decide +kernel
theorem dX4_through_1 : decode cX4_through 1 = .ok (.tableswitch 55 1 3 #[27, 31, 43], 27) := by decide +kernel
theorem dX4_through_28 : decode cX4_through 28 = .ok (.iload_n 1, 1) := by decide +kernel
theorem dX4_through_29 : decode cX4_through 29 = .ok (.iconst 2, 1) := by decide +kernel
theorem dX4_through_30 : decode cX4_through 30 = .ok (.idiv, 1) := by decide +kernel
theorem dX4_through_31 : decode cX4_through 31 = .ok (.ireturn, 1) := by decide +kernel
theorem dX4_through_32 : decode cX4_through 32 = .ok (.iload_n 1, 1) := by decide +kernel
theorem dX4_through_33 : decode cX4_through 33 = .ok (.ifCond .le 9, 3) := by decide +kernel
theorem dX4_through_36 : decode cX4_through 36 = .ok (.iload_n 1, 1) := by decide +kernel
theorem dX4_through_37 : decode cX4_through 37 = .ok (.iconst 1, 1) := by decide +kernel
theorem dX4_through_38 : decode cX4_through 38 = .ok (.iadd, 1) := by decide +kernel
theorem dX4_through_39 : decode cX4_through 39 = .ok (.goto 4, 3) := by decide +kernel
theorem dX4_through_42 : decode cX4_through 42 = .ok (.iconst 0, 1) := by decide +kernel
theorem dX4_through_43 : decode cX4_through 43 = .ok (.ireturn, 1) := by decide +kernel
theorem dX4_through_44 : decode cX4_through 44 = .ok (.iload_n 2, 1) := by decide +kernel
theorem dX4_through_45 : decode cX4_through 45 = .ok (.iconst 2, 1) := by decide +kernel
theorem dX4_through_46 : decode cX4_through 46 = .ok (.irem, 1) := by decide +kernel
theorem dX4_through_47 : decode cX4_through 47 = .ok (.ifCond .eq 7, 3) := by decide +kernel
theorem dX4_through_50 : decode cX4_through 50 = .ok (.iconst 0, 1) := by decide +kernel
theorem dX4_through_51 : decode cX4_through 51 = .ok (.goto 4, 3) := by decide +kernel
theorem dX4_through_54 : decode cX4_through 54 = .ok (.iload_n 1, 1) := by decide +kernel
theorem dX4_through_55 : decode cX4_through 55 = .ok (.ireturn, 1) := by decide +kernel
theorem dX4_through_56 : decode cX4_through 56 = .ok (.iload_n 1, 1) := by decide +kernel
theorem dX4_through_57 : decode cX4_through 57 = .ok (.ireturn, 1) := by decide +kernel
theorem dX5_init_0 : decode cX5_init 0 = .ok (.aload_n 0, 1) := by decide +kernel
theorem dX5_init_1 : decode cX5_init 1 = .ok (.invokespecial 3, 3) := by decide +kernel
theorem dX5_init_4 : decode cX5_init 4 = .ok (.aload_n 0, 1) := by decide +kernel
theorem dX5_init_5 : decode cX5_init 5 = .ok (.bipush 48, 2) := by decide +kernel
theorem dX5_init_7 : decode cX5_init 7 = .ok (.newarray .int, 2) := by decide +kernel
theorem dX5_init_9 : decode cX5_init 9 = .ok (.putfield 9, 3) := by decide +kernel
theorem dX5_init_12 : decode cX5_init 12 = .ok (.aload_n 0, 1) := by decide +kernel
theorem dX5_init_13 : decode cX5_init 13 = .ok (.iconst 0, 1) := by decide +kernel
theorem dX5_init_14 : decode cX5_init 14 = .ok (.putfield 15, 3) := by decide +kernel
theorem dX5_init_17 : decode cX5_init 17 = .ok (.return_, 1) := by decide +kernel
theorem dX5_add_0 : decode cX5_add 0 = .ok (.aload_n 0, 1) := by decide +kernel
theorem dX5_add_1 : decode cX5_add 1 = .ok (.getfield 15, 3) := by decide +kernel
theorem dX5_add_4 : decode cX5_add 4 = .ok (.ifCond .lt 35, 3) := by decide +kernel
theorem dX5_add_7 : decode cX5_add 7 = .ok (.aload_n 0, 1) := by decide +kernel
theorem dX5_add_8 : decode cX5_add 8 = .ok (.getfield 15, 3) := by decide +kernel
theorem dX5_add_11 : decode cX5_add 11 = .ok (.aload_n 0, 1) := by decide +kernel
theorem dX5_add_12 : decode cX5_add 12 = .ok (.getfield 9, 3) := by decide +kernel
theorem dX5_add_15 : decode cX5_add 15 = .ok (.arraylength, 1) := by decide +kernel
theorem dX5_add_16 : decode cX5_add 16 = .ok (.if_icmp .ge 23, 3) := by decide +kernel
theorem dX5_add_19 : decode cX5_add 19 = .ok (.aload_n 0, 1) := by decide +kernel
theorem dX5_add_20 : decode cX5_add 20 = .ok (.getfield 9, 3) := by decide +kernel
theorem dX5_add_23 : decode cX5_add 23 = .ok (.aload_n 0, 1) := by decide +kernel
theorem dX5_add_24 : decode cX5_add 24 = .ok (.getfield 15, 3) := by decide +kernel
theorem dX5_add_27 : decode cX5_add 27 = .ok (.iload_n 1, 1) := by decide +kernel
theorem dX5_add_28 : decode cX5_add 28 = .ok (.iastore, 1) := by decide +kernel
theorem dX5_add_29 : decode cX5_add 29 = .ok (.aload_n 0, 1) := by decide +kernel
theorem dX5_add_30 : decode cX5_add 30 = .ok (.dup, 1) := by decide +kernel
theorem dX5_add_31 : decode cX5_add 31 = .ok (.getfield 15, 3) := by decide +kernel
theorem dX5_add_34 : decode cX5_add 34 = .ok (.iconst 1, 1) := by decide +kernel
theorem dX5_add_35 : decode cX5_add 35 = .ok (.iadd, 1) := by decide +kernel
theorem dX5_add_36 : decode cX5_add 36 = .ok (.putfield 15, 3) := by decide +kernel
theorem dX5_add_39 : decode cX5_add 39 = .ok (.return_, 1) := by decide +kernel
theorem dX5_at_0 : decode cX5_at 0 = .ok (.iload_n 1, 1) := by decide +kernel
theorem dX5_at_1 : decode cX5_at 1 = .ok (.ifCond .lt 29, 3) := by decide +kernel
theorem dX5_at_4 : decode cX5_at 4 = .ok (.iload_n 1, 1) := by decide +kernel
theorem dX5_at_5 : decode cX5_at 5 = .ok (.aload_n 0, 1) := by decide +kernel
theorem dX5_at_6 : decode cX5_at 6 = .ok (.getfield 15, 3) := by decide +kernel
theorem dX5_at_9 : decode cX5_at 9 = .ok (.if_icmp .ge 21, 3) := by decide +kernel
theorem dX5_at_12 : decode cX5_at 12 = .ok (.iload_n 1, 1) := by decide +kernel
theorem dX5_at_13 : decode cX5_at 13 = .ok (.aload_n 0, 1) := by decide +kernel
theorem dX5_at_14 : decode cX5_at 14 = .ok (.getfield 9, 3) := by decide +kernel
theorem dX5_at_17 : decode cX5_at 17 = .ok (.arraylength, 1) := by decide +kernel
theorem dX5_at_18 : decode cX5_at 18 = .ok (.if_icmp .ge 12, 3) := by decide +kernel
theorem dX5_at_21 : decode cX5_at 21 = .ok (.aload_n 0, 1) := by decide +kernel
theorem dX5_at_22 : decode cX5_at 22 = .ok (.getfield 9, 3) := by decide +kernel
theorem dX5_at_25 : decode cX5_at 25 = .ok (.iload_n 1, 1) := by decide +kernel
theorem dX5_at_26 : decode cX5_at 26 = .ok (.iaload, 1) := by decide +kernel
theorem dX5_at_27 : decode cX5_at 27 = .ok (.goto 4, 3) := by decide +kernel
theorem dX5_at_30 : decode cX5_at 30 = .ok (.iconst (-1), 1) := by decide +kernel
theorem dX5_at_31 : decode cX5_at 31 = .ok (.ireturn, 1) := by decide +kernel
theorem dX5_digitAt_0 : decode cX5_digitAt 0 = .ok (.aload_n 0, 1) := by decide +kernel
theorem dX5_digitAt_1 : decode cX5_digitAt 1 = .ok (.iload_n 1, 1) := by decide +kernel
theorem dX5_digitAt_2 : decode cX5_digitAt 2 = .ok (.invokevirtual 19, 3) := by decide +kernel
theorem dX5_digitAt_5 : decode cX5_digitAt 5 = .ok (.bipush 48, 2) := by decide +kernel
theorem dX5_digitAt_7 : decode cX5_digitAt 7 = .ok (.isub, 1) := by decide +kernel
theorem dX5_digitAt_8 : decode cX5_digitAt 8 = .ok (.ireturn, 1) := by decide +kernel
theorem dX5_housesTold_0 : decode cX5_housesTold 0 = .ok (.aload_n 0, 1) := by decide +kernel
theorem dX5_housesTold_1 : decode cX5_housesTold 1 = .ok (.getfield 15, 3) := by decide +kernel
theorem dX5_housesTold_4 : decode cX5_housesTold 4 = .ok (.iconst 2, 1) := by decide +kernel
theorem dX5_housesTold_5 : decode cX5_housesTold 5 = .ok (.isub, 1) := by decide +kernel
theorem dX5_housesTold_6 : decode cX5_housesTold 6 = .ok (.iconst 5, 1) := by decide +kernel
theorem dX5_housesTold_7 : decode cX5_housesTold 7 = .ok (.idiv, 1) := by decide +kernel
theorem dX5_housesTold_8 : decode cX5_housesTold 8 = .ok (.ireturn, 1) := by decide +kernel
theorem dX5_firstFault_0 : decode cX5_firstFault 0 = .ok (.iconst 0, 1) := by decide +kernel
theorem dX5_firstFault_1 : decode cX5_firstFault 1 = .ok (.istore_n 1, 1) := by decide +kernel
theorem dX5_firstFault_2 : decode cX5_firstFault 2 = .ok (.iload_n 1, 1) := by decide +kernel
theorem dX5_firstFault_3 : decode cX5_firstFault 3 = .ok (.aload_n 0, 1) := by decide +kernel
theorem dX5_firstFault_4 : decode cX5_firstFault 4 = .ok (.getfield 15, 3) := by decide +kernel
theorem dX5_firstFault_7 : decode cX5_firstFault 7 = .ok (.if_icmp .ge 19, 3) := by decide +kernel
theorem dX5_firstFault_10 : decode cX5_firstFault 10 = .ok (.aload_n 0, 1) := by decide +kernel
theorem dX5_firstFault_11 : decode cX5_firstFault 11 = .ok (.iload_n 1, 1) := by decide +kernel
theorem dX5_firstFault_12 : decode cX5_firstFault 12 = .ok (.invokevirtual 23, 3) := by decide +kernel
theorem dX5_firstFault_15 : decode cX5_firstFault 15 = .ok (.ifCond .ne 5, 3) := by decide +kernel
theorem dX5_firstFault_18 : decode cX5_firstFault 18 = .ok (.iload_n 1, 1) := by decide +kernel
theorem dX5_firstFault_19 : decode cX5_firstFault 19 = .ok (.ireturn, 1) := by decide +kernel
theorem dX5_firstFault_20 : decode cX5_firstFault 20 = .ok (.iinc 1 1, 3) := by decide +kernel
theorem dX5_firstFault_23 : decode cX5_firstFault 23 = .ok (.goto (-21), 3) := by decide +kernel
theorem dX5_firstFault_26 : decode cX5_firstFault 26 = .ok (.aload_n 0, 1) := by decide +kernel
theorem dX5_firstFault_27 : decode cX5_firstFault 27 = .ok (.getfield 15, 3) := by decide +kernel
theorem dX5_firstFault_30 : decode cX5_firstFault 30 = .ok (.iconst 2, 1) := by decide +kernel
theorem dX5_firstFault_31 : decode cX5_firstFault 31 = .ok (.if_icmp .lt 18, 3) := by decide +kernel
theorem dX5_firstFault_34 : decode cX5_firstFault 34 = .ok (.aload_n 0, 1) := by decide +kernel
theorem dX5_firstFault_35 : decode cX5_firstFault 35 = .ok (.getfield 15, 3) := by decide +kernel
theorem dX5_firstFault_38 : decode cX5_firstFault 38 = .ok (.iconst 2, 1) := by decide +kernel
theorem dX5_firstFault_39 : decode cX5_firstFault 39 = .ok (.isub, 1) := by decide +kernel
theorem dX5_firstFault_40 : decode cX5_firstFault 40 = .ok (.iconst 5, 1) := by decide +kernel
theorem dX5_firstFault_41 : decode cX5_firstFault 41 = .ok (.irem, 1) := by decide +kernel
theorem dX5_firstFault_42 : decode cX5_firstFault 42 = .ok (.ifCond .ne 7, 3) := by decide +kernel
theorem dX5_firstFault_45 : decode cX5_firstFault 45 = .ok (.iconst 1, 1) := by decide +kernel
theorem dX5_firstFault_46 : decode cX5_firstFault 46 = .ok (.goto 4, 3) := by decide +kernel
theorem dX5_firstFault_49 : decode cX5_firstFault 49 = .ok (.iconst 0, 1) := by decide +kernel
theorem dX5_firstFault_50 : decode cX5_firstFault 50 = .ok (.istore_n 1, 1) := by decide +kernel
theorem dX5_firstFault_51 : decode cX5_firstFault 51 = .ok (.iload_n 1, 1) := by decide +kernel
theorem dX5_firstFault_52 : decode cX5_firstFault 52 = .ok (.ifCond .eq 8, 3) := by decide +kernel
theorem dX5_firstFault_55 : decode cX5_firstFault 55 = .ok (.bipush (-9), 2) := by decide +kernel
theorem dX5_firstFault_57 : decode cX5_firstFault 57 = .ok (.goto 7, 3) := by decide +kernel
theorem dX5_firstFault_60 : decode cX5_firstFault 60 = .ok (.aload_n 0, 1) := by decide +kernel
theorem dX5_firstFault_61 : decode cX5_firstFault 61 = .ok (.getfield 15, 3) := by decide +kernel
theorem dX5_firstFault_64 : decode cX5_firstFault 64 = .ok (.ireturn, 1) := by decide +kernel
theorem dX5_fits_0 : decode cX5_fits 0 = .ok (.iload_n 1, 1) := by decide +kernel
theorem dX5_fits_1 : decode cX5_fits 1 = .ok (.ifCond .ne 19, 3) := by decide +kernel
theorem dX5_fits_4 : decode cX5_fits 4 = .ok (.aload_n 0, 1) := by decide +kernel
theorem dX5_fits_5 : decode cX5_fits 5 = .ok (.iload_n 1, 1) := by decide +kernel
theorem dX5_fits_6 : decode cX5_fits 6 = .ok (.invokevirtual 19, 3) := by decide +kernel
theorem dX5_fits_9 : decode cX5_fits 9 = .ok (.bipush 78, 2) := by decide +kernel
theorem dX5_fits_11 : decode cX5_fits 11 = .ok (.if_icmp .ne 7, 3) := by decide +kernel
theorem dX5_fits_14 : decode cX5_fits 14 = .ok (.iconst 1, 1) := by decide +kernel
theorem dX5_fits_15 : decode cX5_fits 15 = .ok (.goto 4, 3) := by decide +kernel
theorem dX5_fits_18 : decode cX5_fits 18 = .ok (.iconst 0, 1) := by decide +kernel
theorem dX5_fits_19 : decode cX5_fits 19 = .ok (.ireturn, 1) := by decide +kernel
theorem dX5_fits_20 : decode cX5_fits 20 = .ok (.iload_n 1, 1) := by decide +kernel
theorem dX5_fits_21 : decode cX5_fits 21 = .ok (.iconst 2, 1) := by decide +kernel
theorem dX5_fits_22 : decode cX5_fits 22 = .ok (.if_icmp .ge 11, 3) := by decide +kernel
theorem dX5_fits_25 : decode cX5_fits 25 = .ok (.aload_n 0, 1) := by decide +kernel
theorem dX5_fits_26 : decode cX5_fits 26 = .ok (.iload_n 1, 1) := by decide +kernel
theorem dX5_fits_27 : decode cX5_fits 27 = .ok (.bipush 9, 2) := by decide +kernel
theorem dX5_fits_29 : decode cX5_fits 29 = .ok (.invokevirtual 27, 3) := by decide +kernel
theorem dX5_fits_32 : decode cX5_fits 32 = .ok (.ireturn, 1) := by decide +kernel
theorem dX5_fits_33 : decode cX5_fits 33 = .ok (.iload_n 1, 1) := by decide +kernel
theorem dX5_fits_34 : decode cX5_fits 34 = .ok (.iconst 2, 1) := by decide +kernel
theorem dX5_fits_35 : decode cX5_fits 35 = .ok (.isub, 1) := by decide +kernel
theorem dX5_fits_36 : decode cX5_fits 36 = .ok (.iconst 5, 1) := by decide +kernel
theorem dX5_fits_37 : decode cX5_fits 37 = .ok (.idiv, 1) := by decide +kernel
theorem dX5_fits_38 : decode cX5_fits 38 = .ok (.istore_n 2, 1) := by decide +kernel
theorem dX5_fits_39 : decode cX5_fits 39 = .ok (.iload_n 1, 1) := by decide +kernel
theorem dX5_fits_40 : decode cX5_fits 40 = .ok (.iconst 2, 1) := by decide +kernel
theorem dX5_fits_41 : decode cX5_fits 41 = .ok (.isub, 1) := by decide +kernel
theorem dX5_fits_42 : decode cX5_fits 42 = .ok (.iconst 5, 1) := by decide +kernel
theorem dX5_fits_43 : decode cX5_fits 43 = .ok (.irem, 1) := by decide +kernel
theorem dX5_fits_44 : decode cX5_fits 44 = .ok (.istore_n 3, 1) := by decide +kernel
theorem dX5_fits_45 : decode cX5_fits 45 = .ok (.iload_n 3, 1) := by decide +kernel
theorem dX5_fits_46 : decode cX5_fits 46 = .ok (.ifCond .ne 25, 3) := by decide +kernel
theorem dX5_fits_49 : decode cX5_fits 49 = .ok (.aload_n 0, 1) := by decide +kernel
theorem dX5_fits_50 : decode cX5_fits 50 = .ok (.iload_n 1, 1) := by decide +kernel
theorem dX5_fits_51 : decode cX5_fits 51 = .ok (.invokevirtual 19, 3) := by decide +kernel
theorem dX5_fits_54 : decode cX5_fits 54 = .ok (.bipush 72, 2) := by decide +kernel
theorem dX5_fits_56 : decode cX5_fits 56 = .ok (.if_icmp .ne 13, 3) := by decide +kernel
theorem dX5_fits_59 : decode cX5_fits 59 = .ok (.iload_n 2, 1) := by decide +kernel
theorem dX5_fits_60 : decode cX5_fits 60 = .ok (.bipush 6, 2) := by decide +kernel
theorem dX5_fits_62 : decode cX5_fits 62 = .ok (.if_icmp .ge 7, 3) := by decide +kernel
theorem dX5_fits_65 : decode cX5_fits 65 = .ok (.iconst 1, 1) := by decide +kernel
theorem dX5_fits_66 : decode cX5_fits 66 = .ok (.goto 4, 3) := by decide +kernel
theorem dX5_fits_69 : decode cX5_fits 69 = .ok (.iconst 0, 1) := by decide +kernel
theorem dX5_fits_70 : decode cX5_fits 70 = .ok (.ireturn, 1) := by decide +kernel
theorem dX5_fits_71 : decode cX5_fits 71 = .ok (.aload_n 0, 1) := by decide +kernel
theorem dX5_fits_72 : decode cX5_fits 72 = .ok (.iload_n 1, 1) := by decide +kernel
theorem dX5_fits_73 : decode cX5_fits 73 = .ok (.iload_n 3, 1) := by decide +kernel
theorem dX5_fits_74 : decode cX5_fits 74 = .ok (.iconst 1, 1) := by decide +kernel
theorem dX5_fits_75 : decode cX5_fits 75 = .ok (.if_icmp .ne 7, 3) := by decide +kernel
theorem dX5_fits_78 : decode cX5_fits 78 = .ok (.iconst 3, 1) := by decide +kernel
theorem dX5_fits_79 : decode cX5_fits 79 = .ok (.goto 5, 3) := by decide +kernel
theorem dX5_fits_82 : decode cX5_fits 82 = .ok (.bipush 9, 2) := by decide +kernel
theorem dX5_fits_84 : decode cX5_fits 84 = .ok (.invokevirtual 27, 3) := by decide +kernel
theorem dX5_fits_87 : decode cX5_fits 87 = .ok (.ireturn, 1) := by decide +kernel
theorem dX5_isDigit_0 : decode cX5_isDigit 0 = .ok (.aload_n 0, 1) := by decide +kernel
theorem dX5_isDigit_1 : decode cX5_isDigit 1 = .ok (.iload_n 1, 1) := by decide +kernel
theorem dX5_isDigit_2 : decode cX5_isDigit 2 = .ok (.invokevirtual 31, 3) := by decide +kernel
theorem dX5_isDigit_5 : decode cX5_isDigit 5 = .ok (.ifCond .lt 16, 3) := by decide +kernel
theorem dX5_isDigit_8 : decode cX5_isDigit 8 = .ok (.aload_n 0, 1) := by decide +kernel
theorem dX5_isDigit_9 : decode cX5_isDigit 9 = .ok (.iload_n 1, 1) := by decide +kernel
theorem dX5_isDigit_10 : decode cX5_isDigit 10 = .ok (.invokevirtual 31, 3) := by decide +kernel
theorem dX5_isDigit_13 : decode cX5_isDigit 13 = .ok (.iload_n 2, 1) := by decide +kernel
theorem dX5_isDigit_14 : decode cX5_isDigit 14 = .ok (.if_icmp .gt 7, 3) := by decide +kernel
theorem dX5_isDigit_17 : decode cX5_isDigit 17 = .ok (.iconst 1, 1) := by decide +kernel
theorem dX5_isDigit_18 : decode cX5_isDigit 18 = .ok (.goto 4, 3) := by decide +kernel
theorem dX5_isDigit_21 : decode cX5_isDigit 21 = .ok (.iconst 0, 1) := by decide +kernel
theorem dX5_isDigit_22 : decode cX5_isDigit 22 = .ok (.ireturn, 1) := by decide +kernel
theorem dJ6_bitCount_0f7a4_0 : decode cJ6_bitCount_0f7a4 0 = .ok (.iload_n 0, 1) := by decide +kernel
theorem dJ6_bitCount_0f7a4_1 : decode cJ6_bitCount_0f7a4 1 = .ok (.iload_n 0, 1) := by decide +kernel
theorem dJ6_bitCount_0f7a4_2 : decode cJ6_bitCount_0f7a4 2 = .ok (.iconst 1, 1) := by decide +kernel
theorem dJ6_bitCount_0f7a4_3 : decode cJ6_bitCount_0f7a4 3 = .ok (.iushr, 1) := by decide +kernel
theorem dJ6_bitCount_0f7a4_4 : decode cJ6_bitCount_0f7a4 4 = .ok (.ldc_w 265, 3) := by decide +kernel
theorem dJ6_bitCount_0f7a4_7 : decode cJ6_bitCount_0f7a4 7 = .ok (.iand, 1) := by decide +kernel
theorem dJ6_bitCount_0f7a4_8 : decode cJ6_bitCount_0f7a4 8 = .ok (.isub, 1) := by decide +kernel
theorem dJ6_bitCount_0f7a4_9 : decode cJ6_bitCount_0f7a4 9 = .ok (.istore_n 0, 1) := by decide +kernel
theorem dJ6_bitCount_0f7a4_10 : decode cJ6_bitCount_0f7a4 10 = .ok (.iload_n 0, 1) := by decide +kernel
theorem dJ6_bitCount_0f7a4_11 : decode cJ6_bitCount_0f7a4 11 = .ok (.ldc_w 266, 3) := by decide +kernel
theorem dJ6_bitCount_0f7a4_14 : decode cJ6_bitCount_0f7a4 14 = .ok (.iand, 1) := by decide +kernel
theorem dJ6_bitCount_0f7a4_15 : decode cJ6_bitCount_0f7a4 15 = .ok (.iload_n 0, 1) := by decide +kernel
theorem dJ6_bitCount_0f7a4_16 : decode cJ6_bitCount_0f7a4 16 = .ok (.iconst 2, 1) := by decide +kernel
theorem dJ6_bitCount_0f7a4_17 : decode cJ6_bitCount_0f7a4 17 = .ok (.iushr, 1) := by decide +kernel
theorem dJ6_bitCount_0f7a4_18 : decode cJ6_bitCount_0f7a4 18 = .ok (.ldc_w 266, 3) := by decide +kernel
theorem dJ6_bitCount_0f7a4_21 : decode cJ6_bitCount_0f7a4 21 = .ok (.iand, 1) := by decide +kernel
theorem dJ6_bitCount_0f7a4_22 : decode cJ6_bitCount_0f7a4 22 = .ok (.iadd, 1) := by decide +kernel
theorem dJ6_bitCount_0f7a4_23 : decode cJ6_bitCount_0f7a4 23 = .ok (.istore_n 0, 1) := by decide +kernel
theorem dJ6_bitCount_0f7a4_24 : decode cJ6_bitCount_0f7a4 24 = .ok (.iload_n 0, 1) := by decide +kernel
theorem dJ6_bitCount_0f7a4_25 : decode cJ6_bitCount_0f7a4 25 = .ok (.iload_n 0, 1) := by decide +kernel
theorem dJ6_bitCount_0f7a4_26 : decode cJ6_bitCount_0f7a4 26 = .ok (.iconst 4, 1) := by decide +kernel
theorem dJ6_bitCount_0f7a4_27 : decode cJ6_bitCount_0f7a4 27 = .ok (.iushr, 1) := by decide +kernel
theorem dJ6_bitCount_0f7a4_28 : decode cJ6_bitCount_0f7a4 28 = .ok (.iadd, 1) := by decide +kernel
theorem dJ6_bitCount_0f7a4_29 : decode cJ6_bitCount_0f7a4 29 = .ok (.ldc_w 267, 3) := by decide +kernel
theorem dJ6_bitCount_0f7a4_32 : decode cJ6_bitCount_0f7a4 32 = .ok (.iand, 1) := by decide +kernel
theorem dJ6_bitCount_0f7a4_33 : decode cJ6_bitCount_0f7a4 33 = .ok (.istore_n 0, 1) := by decide +kernel
theorem dJ6_bitCount_0f7a4_34 : decode cJ6_bitCount_0f7a4 34 = .ok (.iload_n 0, 1) := by decide +kernel
theorem dJ6_bitCount_0f7a4_35 : decode cJ6_bitCount_0f7a4 35 = .ok (.iload_n 0, 1) := by decide +kernel
theorem dJ6_bitCount_0f7a4_36 : decode cJ6_bitCount_0f7a4 36 = .ok (.bipush 8, 2) := by decide +kernel
theorem dJ6_bitCount_0f7a4_38 : decode cJ6_bitCount_0f7a4 38 = .ok (.iushr, 1) := by decide +kernel
theorem dJ6_bitCount_0f7a4_39 : decode cJ6_bitCount_0f7a4 39 = .ok (.iadd, 1) := by decide +kernel
theorem dJ6_bitCount_0f7a4_40 : decode cJ6_bitCount_0f7a4 40 = .ok (.istore_n 0, 1) := by decide +kernel
theorem dJ6_bitCount_0f7a4_41 : decode cJ6_bitCount_0f7a4 41 = .ok (.iload_n 0, 1) := by decide +kernel
theorem dJ6_bitCount_0f7a4_42 : decode cJ6_bitCount_0f7a4 42 = .ok (.iload_n 0, 1) := by decide +kernel
theorem dJ6_bitCount_0f7a4_43 : decode cJ6_bitCount_0f7a4 43 = .ok (.bipush 16, 2) := by decide +kernel
theorem dJ6_bitCount_0f7a4_45 : decode cJ6_bitCount_0f7a4 45 = .ok (.iushr, 1) := by decide +kernel
theorem dJ6_bitCount_0f7a4_46 : decode cJ6_bitCount_0f7a4 46 = .ok (.iadd, 1) := by decide +kernel
theorem dJ6_bitCount_0f7a4_47 : decode cJ6_bitCount_0f7a4 47 = .ok (.istore_n 0, 1) := by decide +kernel
theorem dJ6_bitCount_0f7a4_48 : decode cJ6_bitCount_0f7a4 48 = .ok (.iload_n 0, 1) := by decide +kernel
theorem dJ6_bitCount_0f7a4_49 : decode cJ6_bitCount_0f7a4 49 = .ok (.bipush 63, 2) := by decide +kernel
theorem dJ6_bitCount_0f7a4_51 : decode cJ6_bitCount_0f7a4 51 = .ok (.iand, 1) := by decide +kernel
theorem dJ6_bitCount_0f7a4_52 : decode cJ6_bitCount_0f7a4 52 = .ok (.ireturn, 1) := by decide +kernel
theorem dJ9_floorMod_7cf53_0 : decode cJ9_floorMod_7cf53 0 = .ok (.iload_n 0, 1) := by decide +kernel
theorem dJ9_floorMod_7cf53_1 : decode cJ9_floorMod_7cf53 1 = .ok (.iload_n 1, 1) := by decide +kernel
theorem dJ9_floorMod_7cf53_2 : decode cJ9_floorMod_7cf53 2 = .ok (.irem, 1) := by decide +kernel
theorem dJ9_floorMod_7cf53_3 : decode cJ9_floorMod_7cf53 3 = .ok (.istore_n 2, 1) := by decide +kernel
theorem dJ9_floorMod_7cf53_4 : decode cJ9_floorMod_7cf53 4 = .ok (.iload_n 0, 1) := by decide +kernel
theorem dJ9_floorMod_7cf53_5 : decode cJ9_floorMod_7cf53 5 = .ok (.iload_n 1, 1) := by decide +kernel
theorem dJ9_floorMod_7cf53_6 : decode cJ9_floorMod_7cf53 6 = .ok (.ixor, 1) := by decide +kernel
theorem dJ9_floorMod_7cf53_7 : decode cJ9_floorMod_7cf53 7 = .ok (.ifCond .ge 11, 3) := by decide +kernel
theorem dJ9_floorMod_7cf53_10 : decode cJ9_floorMod_7cf53 10 = .ok (.iload_n 2, 1) := by decide +kernel
theorem dJ9_floorMod_7cf53_11 : decode cJ9_floorMod_7cf53 11 = .ok (.ifCond .eq 7, 3) := by decide +kernel
theorem dJ9_floorMod_7cf53_14 : decode cJ9_floorMod_7cf53 14 = .ok (.iload_n 2, 1) := by decide +kernel
theorem dJ9_floorMod_7cf53_15 : decode cJ9_floorMod_7cf53 15 = .ok (.iload_n 1, 1) := by decide +kernel
theorem dJ9_floorMod_7cf53_16 : decode cJ9_floorMod_7cf53 16 = .ok (.iadd, 1) := by decide +kernel
theorem dJ9_floorMod_7cf53_17 : decode cJ9_floorMod_7cf53 17 = .ok (.ireturn, 1) := by decide +kernel
theorem dJ9_floorMod_7cf53_18 : decode cJ9_floorMod_7cf53 18 = .ok (.iload_n 2, 1) := by decide +kernel
theorem dJ9_floorMod_7cf53_19 : decode cJ9_floorMod_7cf53 19 = .ok (.ireturn, 1) := by decide +kernel
theorem dJ9_max_7cf53_0 : decode cJ9_max_7cf53 0 = .ok (.iload_n 0, 1) := by decide +kernel
theorem dJ9_max_7cf53_1 : decode cJ9_max_7cf53 1 = .ok (.iload_n 1, 1) := by decide +kernel
theorem dJ9_max_7cf53_2 : decode cJ9_max_7cf53 2 = .ok (.if_icmp .lt 7, 3) := by decide +kernel
theorem dJ9_max_7cf53_5 : decode cJ9_max_7cf53 5 = .ok (.iload_n 0, 1) := by decide +kernel
theorem dJ9_max_7cf53_6 : decode cJ9_max_7cf53 6 = .ok (.goto 4, 3) := by decide +kernel
theorem dJ9_max_7cf53_9 : decode cJ9_max_7cf53 9 = .ok (.iload_n 1, 1) := by decide +kernel
theorem dJ9_max_7cf53_10 : decode cJ9_max_7cf53 10 = .ok (.ireturn, 1) := by decide +kernel
theorem dJ9_min_7cf53_0 : decode cJ9_min_7cf53 0 = .ok (.iload_n 0, 1) := by decide +kernel
theorem dJ9_min_7cf53_1 : decode cJ9_min_7cf53 1 = .ok (.iload_n 1, 1) := by decide +kernel
theorem dJ9_min_7cf53_2 : decode cJ9_min_7cf53 2 = .ok (.if_icmp .gt 7, 3) := by decide +kernel
theorem dJ9_min_7cf53_5 : decode cJ9_min_7cf53 5 = .ok (.iload_n 0, 1) := by decide +kernel
theorem dJ9_min_7cf53_6 : decode cJ9_min_7cf53 6 = .ok (.goto 4, 3) := by decide +kernel
theorem dJ9_min_7cf53_9 : decode cJ9_min_7cf53 9 = .ok (.iload_n 1, 1) := by decide +kernel
theorem dJ9_min_7cf53_10 : decode cJ9_min_7cf53 10 = .ok (.ireturn, 1) := by decide +kernel
end
section
/-! decode rows -/
theorem dX6_init_0 : decode cX6_init 0 = .ok (.aload_n 0, 1) := by decide +kernel
theorem dX6_init_1 : decode cX6_init 1 = .ok (.invokespecial 1, 3) := by decide +kernel
theorem dX6_init_4 : decode cX6_init 4 = .ok (.aload_n 0, 1) := by decide +kernel
theorem dX6_init_5 : decode cX6_init 5 = .ok (.new 7, 3) := by decide +kernel
theorem dX6_init_8 : decode cX6_init 8 = .ok (.dup, 1) := by decide +kernel
theorem dX6_init_9 : decode cX6_init 9 = .ok (.invokespecial 9, 3) := by decide +kernel
theorem dX6_init_12 : decode cX6_init 12 = .ok (.putfield 10, 3) := by decide +kernel
theorem dX6_init_15 : decode cX6_init 15 = .ok (.aload_n 0, 1) := by decide +kernel
theorem dX6_init_16 : decode cX6_init 16 = .ok (.new 16, 3) := by decide +kernel
theorem dX6_init_19 : decode cX6_init 19 = .ok (.dup, 1) := by decide +kernel
theorem dX6_init_20 : decode cX6_init 20 = .ok (.invokespecial 18, 3) := by decide +kernel
theorem dX6_init_23 : decode cX6_init 23 = .ok (.putfield 19, 3) := by decide +kernel
theorem dX6_init_26 : decode cX6_init 26 = .ok (.aload_n 0, 1) := by decide +kernel
theorem dX6_init_27 : decode cX6_init 27 = .ok (.new 23, 3) := by decide +kernel
theorem dX6_init_30 : decode cX6_init 30 = .ok (.dup, 1) := by decide +kernel
theorem dX6_init_31 : decode cX6_init 31 = .ok (.invokespecial 25, 3) := by decide +kernel
theorem dX6_init_34 : decode cX6_init 34 = .ok (.putfield 26, 3) := by decide +kernel
theorem dX6_init_37 : decode cX6_init 37 = .ok (.aload_n 0, 1) := by decide +kernel
theorem dX6_init_38 : decode cX6_init 38 = .ok (.new 23, 3) := by decide +kernel
theorem dX6_init_41 : decode cX6_init 41 = .ok (.dup, 1) := by decide +kernel
theorem dX6_init_42 : decode cX6_init 42 = .ok (.invokespecial 25, 3) := by decide +kernel
theorem dX6_init_45 : decode cX6_init 45 = .ok (.putfield 30, 3) := by decide +kernel
theorem dX6_init_48 : decode cX6_init 48 = .ok (.aload_n 0, 1) := by decide +kernel
theorem dX6_init_49 : decode cX6_init 49 = .ok (.new 33, 3) := by decide +kernel
theorem dX6_init_52 : decode cX6_init 52 = .ok (.dup, 1) := by decide +kernel
theorem dX6_init_53 : decode cX6_init 53 = .ok (.invokespecial 35, 3) := by decide +kernel
theorem dX6_init_56 : decode cX6_init 56 = .ok (.putfield 36, 3) := by decide +kernel
theorem dX6_init_59 : decode cX6_init 59 = .ok (.aload_n 0, 1) := by decide +kernel
theorem dX6_init_60 : decode cX6_init 60 = .ok (.new 40, 3) := by decide +kernel
theorem dX6_init_63 : decode cX6_init 63 = .ok (.dup, 1) := by decide +kernel
theorem dX6_init_64 : decode cX6_init 64 = .ok (.invokespecial 42, 3) := by decide +kernel
theorem dX6_init_67 : decode cX6_init 67 = .ok (.putfield 43, 3) := by decide +kernel
theorem dX6_init_70 : decode cX6_init 70 = .ok (.aload_n 0, 1) := by decide +kernel
theorem dX6_init_71 : decode cX6_init 71 = .ok (.new 47, 3) := by decide +kernel
theorem dX6_init_74 : decode cX6_init 74 = .ok (.dup, 1) := by decide +kernel
theorem dX6_init_75 : decode cX6_init 75 = .ok (.invokespecial 49, 3) := by decide +kernel
theorem dX6_init_78 : decode cX6_init 78 = .ok (.putfield 50, 3) := by decide +kernel
theorem dX6_init_81 : decode cX6_init 81 = .ok (.aload_n 0, 1) := by decide +kernel
theorem dX6_init_82 : decode cX6_init 82 = .ok (.iconst 2, 1) := by decide +kernel
theorem dX6_init_83 : decode cX6_init 83 = .ok (.invokestatic 54, 3) := by decide +kernel
theorem dX6_init_86 : decode cX6_init 86 = .ok (.putfield 58, 3) := by decide +kernel
theorem dX6_init_89 : decode cX6_init 89 = .ok (.aload_n 0, 1) := by decide +kernel
theorem dX6_init_90 : decode cX6_init 90 = .ok (.bipush 6, 2) := by decide +kernel
theorem dX6_init_92 : decode cX6_init 92 = .ok (.newarray .int, 2) := by decide +kernel
theorem dX6_init_94 : decode cX6_init 94 = .ok (.putfield 62, 3) := by decide +kernel
theorem dX6_init_97 : decode cX6_init 97 = .ok (.aload_n 0, 1) := by decide +kernel
theorem dX6_init_98 : decode cX6_init 98 = .ok (.iconst 0, 1) := by decide +kernel
theorem dX6_init_99 : decode cX6_init 99 = .ok (.putfield 66, 3) := by decide +kernel
theorem dX6_init_102 : decode cX6_init 102 = .ok (.aload_n 0, 1) := by decide +kernel
theorem dX6_init_103 : decode cX6_init 103 = .ok (.lconst 0, 1) := by decide +kernel
theorem dX6_init_104 : decode cX6_init 104 = .ok (.putfield 70, 3) := by decide +kernel
theorem dX6_init_107 : decode cX6_init 107 = .ok (.return_, 1) := by decide +kernel
theorem dX6_write_0 : decode cX6_write 0 = .ok (.iload_n 1, 1) := by decide +kernel
theorem dX6_write_1 : decode cX6_write 1 = .ok (.ifCond .lt 10, 3) := by decide +kernel
theorem dX6_write_4 : decode cX6_write 4 = .ok (.iload_n 1, 1) := by decide +kernel
theorem dX6_write_5 : decode cX6_write 5 = .ok (.sipush 255, 3) := by decide +kernel
theorem dX6_write_8 : decode cX6_write 8 = .ok (.if_icmp .le 6, 3) := by decide +kernel
theorem dX6_write_11 : decode cX6_write 11 = .ok (.bipush (-2), 2) := by decide +kernel
theorem dX6_write_13 : decode cX6_write 13 = .ok (.ireturn, 1) := by decide +kernel
theorem dX6_write_14 : decode cX6_write 14 = .ok (.aload_n 0, 1) := by decide +kernel
theorem dX6_write_15 : decode cX6_write 15 = .ok (.getfield 10, 3) := by decide +kernel
theorem dX6_write_18 : decode cX6_write 18 = .ok (.getfield 74, 3) := by decide +kernel
theorem dX6_write_21 : decode cX6_write 21 = .ok (.bipush 48, 2) := by decide +kernel
theorem dX6_write_23 : decode cX6_write 23 = .ok (.if_icmp .lt 6, 3) := by decide +kernel
theorem dX6_write_26 : decode cX6_write 26 = .ok (.bipush (-4), 2) := by decide +kernel
theorem dX6_write_28 : decode cX6_write 28 = .ok (.ireturn, 1) := by decide +kernel
theorem dX6_write_29 : decode cX6_write 29 = .ok (.aload_n 0, 1) := by decide +kernel
theorem dX6_write_30 : decode cX6_write 30 = .ok (.getfield 10, 3) := by decide +kernel
theorem dX6_write_33 : decode cX6_write 33 = .ok (.iload_n 1, 1) := by decide +kernel
theorem dX6_write_34 : decode cX6_write 34 = .ok (.invokevirtual 77, 3) := by decide +kernel
theorem dX6_write_37 : decode cX6_write 37 = .ok (.aload_n 0, 1) := by decide +kernel
theorem dX6_write_38 : decode cX6_write 38 = .ok (.getfield 10, 3) := by decide +kernel
theorem dX6_write_41 : decode cX6_write 41 = .ok (.getfield 74, 3) := by decide +kernel
theorem dX6_write_44 : decode cX6_write 44 = .ok (.ireturn, 1) := by decide +kernel
theorem dX6_wipe_0 : decode cX6_wipe 0 = .ok (.aload_n 0, 1) := by decide +kernel
theorem dX6_wipe_1 : decode cX6_wipe 1 = .ok (.getfield 10, 3) := by decide +kernel
theorem dX6_wipe_4 : decode cX6_wipe 4 = .ok (.getfield 74, 3) := by decide +kernel
theorem dX6_wipe_7 : decode cX6_wipe 7 = .ok (.istore_n 1, 1) := by decide +kernel
theorem dX6_wipe_8 : decode cX6_wipe 8 = .ok (.aload_n 0, 1) := by decide +kernel
theorem dX6_wipe_9 : decode cX6_wipe 9 = .ok (.getfield 10, 3) := by decide +kernel
theorem dX6_wipe_12 : decode cX6_wipe 12 = .ok (.iconst 0, 1) := by decide +kernel
theorem dX6_wipe_13 : decode cX6_wipe 13 = .ok (.putfield 74, 3) := by decide +kernel
theorem dX6_wipe_16 : decode cX6_wipe 16 = .ok (.iload_n 1, 1) := by decide +kernel
theorem dX6_wipe_17 : decode cX6_wipe 17 = .ok (.ireturn, 1) := by decide +kernel
theorem dX6_fault_0 : decode cX6_fault 0 = .ok (.aload_n 0, 1) := by decide +kernel
theorem dX6_fault_1 : decode cX6_fault 1 = .ok (.getfield 10, 3) := by decide +kernel
theorem dX6_fault_4 : decode cX6_fault 4 = .ok (.invokevirtual 81, 3) := by decide +kernel
theorem dX6_fault_7 : decode cX6_fault 7 = .ok (.ireturn, 1) := by decide +kernel
theorem dX6_street_0 : decode cX6_street 0 = .ok (.aload_n 0, 1) := by decide +kernel
theorem dX6_street_1 : decode cX6_street 1 = .ok (.getfield 10, 3) := by decide +kernel
theorem dX6_street_4 : decode cX6_street 4 = .ok (.invokevirtual 81, 3) := by decide +kernel
theorem dX6_street_7 : decode cX6_street 7 = .ok (.bipush (-9), 2) := by decide +kernel
theorem dX6_street_9 : decode cX6_street 9 = .ok (.if_icmp .eq 6, 3) := by decide +kernel
theorem dX6_street_12 : decode cX6_street 12 = .ok (.bipush (-3), 2) := by decide +kernel
theorem dX6_street_14 : decode cX6_street 14 = .ok (.ireturn, 1) := by decide +kernel
theorem dX6_street_15 : decode cX6_street 15 = .ok (.aload_n 0, 1) := by decide +kernel
theorem dX6_street_16 : decode cX6_street 16 = .ok (.getfield 19, 3) := by decide +kernel
theorem dX6_street_19 : decode cX6_street 19 = .ok (.aload_n 0, 1) := by decide +kernel
theorem dX6_street_20 : decode cX6_street 20 = .ok (.getfield 10, 3) := by decide +kernel
theorem dX6_street_23 : decode cX6_street 23 = .ok (.invokevirtual 85, 3) := by decide +kernel
theorem dX6_street_26 : decode cX6_street 26 = .ok (.aload_n 0, 1) := by decide +kernel
theorem dX6_street_27 : decode cX6_street 27 = .ok (.getfield 26, 3) := by decide +kernel
theorem dX6_street_30 : decode cX6_street 30 = .ok (.aload_n 0, 1) := by decide +kernel
theorem dX6_street_31 : decode cX6_street 31 = .ok (.getfield 19, 3) := by decide +kernel
theorem dX6_street_34 : decode cX6_street 34 = .ok (.invokevirtual 89, 3) := by decide +kernel
theorem dX6_street_37 : decode cX6_street 37 = .ok (.aload_n 0, 1) := by decide +kernel
theorem dX6_street_38 : decode cX6_street 38 = .ok (.getfield 36, 3) := by decide +kernel
theorem dX6_street_41 : decode cX6_street 41 = .ok (.iconst 0, 1) := by decide +kernel
theorem dX6_street_42 : decode cX6_street 42 = .ok (.putfield 93, 3) := by decide +kernel
theorem dX6_street_45 : decode cX6_street 45 = .ok (.aload_n 0, 1) := by decide +kernel
theorem dX6_street_46 : decode cX6_street 46 = .ok (.iconst 0, 1) := by decide +kernel
theorem dX6_street_47 : decode cX6_street 47 = .ok (.putfield 66, 3) := by decide +kernel
theorem dX6_street_50 : decode cX6_street 50 = .ok (.aload_n 0, 1) := by decide +kernel
theorem dX6_street_51 : decode cX6_street 51 = .ok (.getfield 19, 3) := by decide +kernel
theorem dX6_street_54 : decode cX6_street 54 = .ok (.getfield 96, 3) := by decide +kernel
theorem dX6_street_57 : decode cX6_street 57 = .ok (.ireturn, 1) := by decide +kernel
theorem dX6_about_0 : decode cX6_about 0 = .ok (.iload_n 1, 1) := by decide +kernel
theorem dX6_about_1 : decode cX6_about 1 = .ok (.tableswitch 135 0 9 #[55, 63, 71, 79, 87, 95, 103, 111, 119, 127], 55) := by decide +kernel
theorem dX6_about_56 : decode cX6_about 56 = .ok (.aload_n 0, 1) := by decide +kernel
theorem dX6_about_57 : decode cX6_about 57 = .ok (.getfield 19, 3) := by decide +kernel
theorem dX6_about_60 : decode cX6_about 60 = .ok (.getfield 96, 3) := by decide +kernel
theorem dX6_about_63 : decode cX6_about 63 = .ok (.ireturn, 1) := by decide +kernel
theorem dX6_about_64 : decode cX6_about 64 = .ok (.aload_n 0, 1) := by decide +kernel
theorem dX6_about_65 : decode cX6_about 65 = .ok (.getfield 26, 3) := by decide +kernel
theorem dX6_about_68 : decode cX6_about 68 = .ok (.getfield 97, 3) := by decide +kernel
theorem dX6_about_71 : decode cX6_about 71 = .ok (.ireturn, 1) := by decide +kernel
theorem dX6_about_72 : decode cX6_about 72 = .ok (.aload_n 0, 1) := by decide +kernel
theorem dX6_about_73 : decode cX6_about 73 = .ok (.getfield 26, 3) := by decide +kernel
theorem dX6_about_76 : decode cX6_about 76 = .ok (.getfield 100, 3) := by decide +kernel
theorem dX6_about_79 : decode cX6_about 79 = .ok (.ireturn, 1) := by decide +kernel
theorem dX6_about_80 : decode cX6_about 80 = .ok (.aload_n 0, 1) := by decide +kernel
theorem dX6_about_81 : decode cX6_about 81 = .ok (.getfield 26, 3) := by decide +kernel
theorem dX6_about_84 : decode cX6_about 84 = .ok (.getfield 103, 3) := by decide +kernel
theorem dX6_about_87 : decode cX6_about 87 = .ok (.ireturn, 1) := by decide +kernel
theorem dX6_about_88 : decode cX6_about 88 = .ok (.aload_n 0, 1) := by decide +kernel
theorem dX6_about_89 : decode cX6_about 89 = .ok (.getfield 26, 3) := by decide +kernel
theorem dX6_about_92 : decode cX6_about 92 = .ok (.getfield 106, 3) := by decide +kernel
theorem dX6_about_95 : decode cX6_about 95 = .ok (.ireturn, 1) := by decide +kernel
theorem dX6_about_96 : decode cX6_about 96 = .ok (.aload_n 0, 1) := by decide +kernel
theorem dX6_about_97 : decode cX6_about 97 = .ok (.getfield 26, 3) := by decide +kernel
theorem dX6_about_100 : decode cX6_about 100 = .ok (.getfield 109, 3) := by decide +kernel
theorem dX6_about_103 : decode cX6_about 103 = .ok (.ireturn, 1) := by decide +kernel
theorem dX6_about_104 : decode cX6_about 104 = .ok (.aload_n 0, 1) := by decide +kernel
theorem dX6_about_105 : decode cX6_about 105 = .ok (.getfield 26, 3) := by decide +kernel
theorem dX6_about_108 : decode cX6_about 108 = .ok (.getfield 112, 3) := by decide +kernel
theorem dX6_about_111 : decode cX6_about 111 = .ok (.ireturn, 1) := by decide +kernel
theorem dX6_about_112 : decode cX6_about 112 = .ok (.aload_n 0, 1) := by decide +kernel
theorem dX6_about_113 : decode cX6_about 113 = .ok (.getfield 36, 3) := by decide +kernel
theorem dX6_about_116 : decode cX6_about 116 = .ok (.getfield 93, 3) := by decide +kernel
theorem dX6_about_119 : decode cX6_about 119 = .ok (.ireturn, 1) := by decide +kernel
theorem dX6_about_120 : decode cX6_about 120 = .ok (.aload_n 0, 1) := by decide +kernel
theorem dX6_about_121 : decode cX6_about 121 = .ok (.getfield 50, 3) := by decide +kernel
theorem dX6_about_124 : decode cX6_about 124 = .ok (.getfield 115, 3) := by decide +kernel
theorem dX6_about_127 : decode cX6_about 127 = .ok (.ireturn, 1) := by decide +kernel
theorem dX6_about_128 : decode cX6_about 128 = .ok (.aload_n 0, 1) := by decide +kernel
theorem dX6_about_129 : decode cX6_about 129 = .ok (.getfield 10, 3) := by decide +kernel
theorem dX6_about_132 : decode cX6_about 132 = .ok (.getfield 74, 3) := by decide +kernel
theorem dX6_about_135 : decode cX6_about 135 = .ok (.ireturn, 1) := by decide +kernel
theorem dX6_about_136 : decode cX6_about 136 = .ok (.bipush (-2), 2) := by decide +kernel
theorem dX6_about_138 : decode cX6_about 138 = .ok (.ireturn, 1) := by decide +kernel
theorem dX6_house_0 : decode cX6_house 0 = .ok (.aload_n 0, 1) := by decide +kernel
theorem dX6_house_1 : decode cX6_house 1 = .ok (.getfield 19, 3) := by decide +kernel
theorem dX6_house_4 : decode cX6_house 4 = .ok (.iload_n 1, 1) := by decide +kernel
theorem dX6_house_5 : decode cX6_house 5 = .ok (.invokevirtual 116, 3) := by decide +kernel
theorem dX6_house_8 : decode cX6_house 8 = .ok (.ifCond .ne 5, 3) := by decide +kernel
theorem dX6_house_11 : decode cX6_house 11 = .ok (.iconst (-1), 1) := by decide +kernel
theorem dX6_house_12 : decode cX6_house 12 = .ok (.ireturn, 1) := by decide +kernel
theorem dX6_house_13 : decode cX6_house 13 = .ok (.iload_n 2, 1) := by decide +kernel
theorem dX6_house_14 : decode cX6_house 14 = .ok (.tableswitch 64 0 4 #[34, 43, 43, 43, 55], 34) := by decide +kernel
theorem dX6_house_48 : decode cX6_house 48 = .ok (.aload_n 0, 1) := by decide +kernel
theorem dX6_house_49 : decode cX6_house 49 = .ok (.getfield 19, 3) := by decide +kernel
theorem dX6_house_52 : decode cX6_house 52 = .ok (.iload_n 1, 1) := by decide +kernel
theorem dX6_house_53 : decode cX6_house 53 = .ok (.invokevirtual 120, 3) := by decide +kernel
theorem dX6_house_56 : decode cX6_house 56 = .ok (.ireturn, 1) := by decide +kernel
theorem dX6_house_57 : decode cX6_house 57 = .ok (.aload_n 0, 1) := by decide +kernel
theorem dX6_house_58 : decode cX6_house 58 = .ok (.getfield 19, 3) := by decide +kernel
theorem dX6_house_61 : decode cX6_house 61 = .ok (.iload_n 1, 1) := by decide +kernel
theorem dX6_house_62 : decode cX6_house 62 = .ok (.iload_n 2, 1) := by decide +kernel
theorem dX6_house_63 : decode cX6_house 63 = .ok (.iconst 1, 1) := by decide +kernel
theorem dX6_house_64 : decode cX6_house 64 = .ok (.isub, 1) := by decide +kernel
theorem dX6_house_65 : decode cX6_house 65 = .ok (.invokevirtual 124, 3) := by decide +kernel
theorem dX6_house_68 : decode cX6_house 68 = .ok (.ireturn, 1) := by decide +kernel
theorem dX6_house_69 : decode cX6_house 69 = .ok (.aload_n 0, 1) := by decide +kernel
theorem dX6_house_70 : decode cX6_house 70 = .ok (.getfield 26, 3) := by decide +kernel
theorem dX6_house_73 : decode cX6_house 73 = .ok (.iload_n 1, 1) := by decide +kernel
theorem dX6_house_74 : decode cX6_house 74 = .ok (.invokevirtual 128, 3) := by decide +kernel
theorem dX6_house_77 : decode cX6_house 77 = .ok (.ireturn, 1) := by decide +kernel
theorem dX6_house_78 : decode cX6_house 78 = .ok (.bipush (-2), 2) := by decide +kernel
theorem dX6_house_80 : decode cX6_house 80 = .ok (.ireturn, 1) := by decide +kernel
theorem dX6_sight_0 : decode cX6_sight 0 = .ok (.aload_n 0, 1) := by decide +kernel
theorem dX6_sight_1 : decode cX6_sight 1 = .ok (.getfield 19, 3) := by decide +kernel
theorem dX6_sight_4 : decode cX6_sight 4 = .ok (.iload_n 1, 1) := by decide +kernel
theorem dX6_sight_5 : decode cX6_sight 5 = .ok (.invokevirtual 116, 3) := by decide +kernel
theorem dX6_sight_8 : decode cX6_sight 8 = .ok (.ifCond .ne 5, 3) := by decide +kernel
theorem dX6_sight_11 : decode cX6_sight 11 = .ok (.iconst (-1), 1) := by decide +kernel
theorem dX6_sight_12 : decode cX6_sight 12 = .ok (.ireturn, 1) := by decide +kernel
theorem dX6_sight_13 : decode cX6_sight 13 = .ok (.iload_n 2, 1) := by decide +kernel
theorem dX6_sight_14 : decode cX6_sight 14 = .ok (.ifCond .lt 9, 3) := by decide +kernel
theorem dX6_sight_17 : decode cX6_sight 17 = .ok (.iload_n 2, 1) := by decide +kernel
theorem dX6_sight_18 : decode cX6_sight 18 = .ok (.bipush 99, 2) := by decide +kernel
theorem dX6_sight_20 : decode cX6_sight 20 = .ok (.if_icmp .le 6, 3) := by decide +kernel
theorem dX6_sight_23 : decode cX6_sight 23 = .ok (.bipush (-2), 2) := by decide +kernel
theorem dX6_sight_25 : decode cX6_sight 25 = .ok (.ireturn, 1) := by decide +kernel
theorem dX6_sight_26 : decode cX6_sight 26 = .ok (.aload_n 0, 1) := by decide +kernel
theorem dX6_sight_27 : decode cX6_sight 27 = .ok (.getfield 26, 3) := by decide +kernel
theorem dX6_sight_30 : decode cX6_sight 30 = .ok (.aload_n 0, 1) := by decide +kernel
theorem dX6_sight_31 : decode cX6_sight 31 = .ok (.getfield 19, 3) := by decide +kernel
theorem dX6_sight_34 : decode cX6_sight 34 = .ok (.iload_n 1, 1) := by decide +kernel
theorem dX6_sight_35 : decode cX6_sight 35 = .ok (.iload_n 2, 1) := by decide +kernel
theorem dX6_sight_36 : decode cX6_sight 36 = .ok (.invokevirtual 131, 3) := by decide +kernel
theorem dX6_sight_39 : decode cX6_sight 39 = .ok (.ireturn, 1) := by decide +kernel
theorem dX6_walk_0 : decode cX6_walk 0 = .ok (.iload_n 1, 1) := by decide +kernel
theorem dX6_walk_1 : decode cX6_walk 1 = .ok (.ifCond .eq 11, 3) := by decide +kernel
theorem dX6_walk_4 : decode cX6_walk 4 = .ok (.iload_n 1, 1) := by decide +kernel
theorem dX6_walk_5 : decode cX6_walk 5 = .ok (.iconst 1, 1) := by decide +kernel
theorem dX6_walk_6 : decode cX6_walk 6 = .ok (.if_icmp .eq 6, 3) := by decide +kernel
theorem dX6_walk_9 : decode cX6_walk 9 = .ok (.bipush (-2), 2) := by decide +kernel
theorem dX6_walk_11 : decode cX6_walk 11 = .ok (.ireturn, 1) := by decide +kernel
theorem dX6_walk_12 : decode cX6_walk 12 = .ok (.aload_n 0, 1) := by decide +kernel
theorem dX6_walk_13 : decode cX6_walk 13 = .ok (.getfield 26, 3) := by decide +kernel
theorem dX6_walk_16 : decode cX6_walk 16 = .ok (.aload_n 0, 1) := by decide +kernel
theorem dX6_walk_17 : decode cX6_walk 17 = .ok (.getfield 19, 3) := by decide +kernel
theorem dX6_walk_20 : decode cX6_walk 20 = .ok (.iload_n 1, 1) := by decide +kernel
theorem dX6_walk_21 : decode cX6_walk 21 = .ok (.invokevirtual 135, 3) := by decide +kernel
theorem dX6_walk_24 : decode cX6_walk 24 = .ok (.ifCond .ne 6, 3) := by decide +kernel
theorem dX6_walk_27 : decode cX6_walk 27 = .ok (.bipush (-3), 2) := by decide +kernel
theorem dX6_walk_29 : decode cX6_walk 29 = .ok (.ireturn, 1) := by decide +kernel
theorem dX6_walk_30 : decode cX6_walk 30 = .ok (.aload_n 0, 1) := by decide +kernel
theorem dX6_walk_31 : decode cX6_walk 31 = .ok (.iload_n 1, 1) := by decide +kernel
theorem dX6_walk_32 : decode cX6_walk 32 = .ok (.invokevirtual 139, 3) := by decide +kernel
theorem dX6_walk_35 : decode cX6_walk 35 = .ok (.pop, 1) := by decide +kernel
theorem dX6_walk_36 : decode cX6_walk 36 = .ok (.aload_n 0, 1) := by decide +kernel
theorem dX6_walk_37 : decode cX6_walk 37 = .ok (.getfield 26, 3) := by decide +kernel
theorem dX6_walk_40 : decode cX6_walk 40 = .ok (.getfield 97, 3) := by decide +kernel
theorem dX6_walk_43 : decode cX6_walk 43 = .ok (.ireturn, 1) := by decide +kernel
theorem dX6_look_0 : decode cX6_look 0 = .ok (.aload_n 0, 1) := by decide +kernel
theorem dX6_look_1 : decode cX6_look 1 = .ok (.getfield 26, 3) := by decide +kernel
theorem dX6_look_4 : decode cX6_look 4 = .ok (.aload_n 0, 1) := by decide +kernel
theorem dX6_look_5 : decode cX6_look 5 = .ok (.getfield 19, 3) := by decide +kernel
theorem dX6_look_8 : decode cX6_look 8 = .ok (.iconst 2, 1) := by decide +kernel
theorem dX6_look_9 : decode cX6_look 9 = .ok (.invokevirtual 135, 3) := by decide +kernel
theorem dX6_look_12 : decode cX6_look 12 = .ok (.ifCond .ne 6, 3) := by decide +kernel
theorem dX6_look_15 : decode cX6_look 15 = .ok (.bipush (-3), 2) := by decide +kernel
theorem dX6_look_17 : decode cX6_look 17 = .ok (.ireturn, 1) := by decide +kernel
theorem dX6_look_18 : decode cX6_look 18 = .ok (.aload_n 0, 1) := by decide +kernel
theorem dX6_look_19 : decode cX6_look 19 = .ok (.iconst 2, 1) := by decide +kernel
theorem dX6_look_20 : decode cX6_look 20 = .ok (.invokevirtual 139, 3) := by decide +kernel
theorem dX6_look_23 : decode cX6_look 23 = .ok (.ireturn, 1) := by decide +kernel
theorem dX6_pause_0 : decode cX6_pause 0 = .ok (.aload_n 0, 1) := by decide +kernel
theorem dX6_pause_1 : decode cX6_pause 1 = .ok (.iconst 3, 1) := by decide +kernel
theorem dX6_pause_2 : decode cX6_pause 2 = .ok (.invokevirtual 139, 3) := by decide +kernel
theorem dX6_pause_5 : decode cX6_pause 5 = .ok (.pop, 1) := by decide +kernel
theorem dX6_pause_6 : decode cX6_pause 6 = .ok (.aload_n 0, 1) := by decide +kernel
theorem dX6_pause_7 : decode cX6_pause 7 = .ok (.getfield 26, 3) := by decide +kernel
theorem dX6_pause_10 : decode cX6_pause 10 = .ok (.getfield 103, 3) := by decide +kernel
theorem dX6_pause_13 : decode cX6_pause 13 = .ok (.ireturn, 1) := by decide +kernel
theorem dX6_lamp_0 : decode cX6_lamp 0 = .ok (.aload_n 0, 1) := by decide +kernel
theorem dX6_lamp_1 : decode cX6_lamp 1 = .ok (.getfield 19, 3) := by decide +kernel
theorem dX6_lamp_4 : decode cX6_lamp 4 = .ok (.iload_n 1, 1) := by decide +kernel
theorem dX6_lamp_5 : decode cX6_lamp 5 = .ok (.invokevirtual 116, 3) := by decide +kernel
theorem dX6_lamp_8 : decode cX6_lamp 8 = .ok (.ifCond .ne 5, 3) := by decide +kernel
theorem dX6_lamp_11 : decode cX6_lamp 11 = .ok (.iconst (-1), 1) := by decide +kernel
theorem dX6_lamp_12 : decode cX6_lamp 12 = .ok (.ireturn, 1) := by decide +kernel
theorem dX6_lamp_13 : decode cX6_lamp 13 = .ok (.aload_n 0, 1) := by decide +kernel
theorem dX6_lamp_14 : decode cX6_lamp 14 = .ok (.getfield 36, 3) := by decide +kernel
theorem dX6_lamp_17 : decode cX6_lamp 17 = .ok (.aload_n 0, 1) := by decide +kernel
theorem dX6_lamp_18 : decode cX6_lamp 18 = .ok (.getfield 26, 3) := by decide +kernel
theorem dX6_lamp_21 : decode cX6_lamp 21 = .ok (.invokevirtual 142, 3) := by decide +kernel
theorem dX6_lamp_24 : decode cX6_lamp 24 = .ok (.aload_n 0, 1) := by decide +kernel
theorem dX6_lamp_25 : decode cX6_lamp 25 = .ok (.getfield 26, 3) := by decide +kernel
theorem dX6_lamp_28 : decode cX6_lamp 28 = .ok (.dup, 1) := by decide +kernel
theorem dX6_lamp_29 : decode cX6_lamp 29 = .ok (.getfield 109, 3) := by decide +kernel
theorem dX6_lamp_32 : decode cX6_lamp 32 = .ok (.iconst 1, 1) := by decide +kernel
theorem dX6_lamp_33 : decode cX6_lamp 33 = .ok (.iload_n 1, 1) := by decide +kernel
theorem dX6_lamp_34 : decode cX6_lamp 34 = .ok (.ishl, 1) := by decide +kernel
theorem dX6_lamp_35 : decode cX6_lamp 35 = .ok (.ixor, 1) := by decide +kernel
theorem dX6_lamp_36 : decode cX6_lamp 36 = .ok (.putfield 109, 3) := by decide +kernel
theorem dX6_lamp_39 : decode cX6_lamp 39 = .ok (.aload_n 0, 1) := by decide +kernel
theorem dX6_lamp_40 : decode cX6_lamp 40 = .ok (.getfield 26, 3) := by decide +kernel
theorem dX6_lamp_43 : decode cX6_lamp 43 = .ok (.getfield 109, 3) := by decide +kernel
theorem dX6_lamp_46 : decode cX6_lamp 46 = .ok (.iload_n 1, 1) := by decide +kernel
theorem dX6_lamp_47 : decode cX6_lamp 47 = .ok (.ishr, 1) := by decide +kernel
theorem dX6_lamp_48 : decode cX6_lamp 48 = .ok (.iconst 1, 1) := by decide +kernel
theorem dX6_lamp_49 : decode cX6_lamp 49 = .ok (.iand, 1) := by decide +kernel
theorem dX6_lamp_50 : decode cX6_lamp 50 = .ok (.ireturn, 1) := by decide +kernel
theorem dX6_key_0 : decode cX6_key 0 = .ok (.aload_n 0, 1) := by decide +kernel
theorem dX6_key_1 : decode cX6_key 1 = .ok (.getfield 19, 3) := by decide +kernel
theorem dX6_key_4 : decode cX6_key 4 = .ok (.iload_n 1, 1) := by decide +kernel
theorem dX6_key_5 : decode cX6_key 5 = .ok (.invokevirtual 116, 3) := by decide +kernel
theorem dX6_key_8 : decode cX6_key 8 = .ok (.ifCond .ne 5, 3) := by decide +kernel
theorem dX6_key_11 : decode cX6_key 11 = .ok (.iconst (-1), 1) := by decide +kernel
theorem dX6_key_12 : decode cX6_key 12 = .ok (.ireturn, 1) := by decide +kernel
theorem dX6_key_13 : decode cX6_key 13 = .ok (.aload_n 0, 1) := by decide +kernel
theorem dX6_key_14 : decode cX6_key 14 = .ok (.getfield 36, 3) := by decide +kernel
theorem dX6_key_17 : decode cX6_key 17 = .ok (.aload_n 0, 1) := by decide +kernel
theorem dX6_key_18 : decode cX6_key 18 = .ok (.getfield 26, 3) := by decide +kernel
theorem dX6_key_21 : decode cX6_key 21 = .ok (.invokevirtual 142, 3) := by decide +kernel
theorem dX6_key_24 : decode cX6_key 24 = .ok (.aload_n 0, 1) := by decide +kernel
theorem dX6_key_25 : decode cX6_key 25 = .ok (.getfield 26, 3) := by decide +kernel
theorem dX6_key_28 : decode cX6_key 28 = .ok (.dup, 1) := by decide +kernel
theorem dX6_key_29 : decode cX6_key 29 = .ok (.getfield 112, 3) := by decide +kernel
theorem dX6_key_32 : decode cX6_key 32 = .ok (.iconst 1, 1) := by decide +kernel
theorem dX6_key_33 : decode cX6_key 33 = .ok (.iload_n 1, 1) := by decide +kernel
theorem dX6_key_34 : decode cX6_key 34 = .ok (.ishl, 1) := by decide +kernel
theorem dX6_key_35 : decode cX6_key 35 = .ok (.ixor, 1) := by decide +kernel
theorem dX6_key_36 : decode cX6_key 36 = .ok (.putfield 112, 3) := by decide +kernel
theorem dX6_key_39 : decode cX6_key 39 = .ok (.aload_n 0, 1) := by decide +kernel
theorem dX6_key_40 : decode cX6_key 40 = .ok (.getfield 26, 3) := by decide +kernel
theorem dX6_key_43 : decode cX6_key 43 = .ok (.getfield 112, 3) := by decide +kernel
theorem dX6_key_46 : decode cX6_key 46 = .ok (.iload_n 1, 1) := by decide +kernel
theorem dX6_key_47 : decode cX6_key 47 = .ok (.ishr, 1) := by decide +kernel
theorem dX6_key_48 : decode cX6_key 48 = .ok (.iconst 1, 1) := by decide +kernel
theorem dX6_key_49 : decode cX6_key 49 = .ok (.iand, 1) := by decide +kernel
theorem dX6_key_50 : decode cX6_key 50 = .ok (.ireturn, 1) := by decide +kernel
theorem dX6_undo_0 : decode cX6_undo 0 = .ok (.aload_n 0, 1) := by decide +kernel
theorem dX6_undo_1 : decode cX6_undo 1 = .ok (.getfield 36, 3) := by decide +kernel
theorem dX6_undo_4 : decode cX6_undo 4 = .ok (.getfield 93, 3) := by decide +kernel
theorem dX6_undo_7 : decode cX6_undo 7 = .ok (.ifCond .gt 6, 3) := by decide +kernel
theorem dX6_undo_10 : decode cX6_undo 10 = .ok (.bipush (-3), 2) := by decide +kernel
theorem dX6_undo_12 : decode cX6_undo 12 = .ok (.ireturn, 1) := by decide +kernel
theorem dX6_undo_13 : decode cX6_undo 13 = .ok (.aload_n 0, 1) := by decide +kernel
theorem dX6_undo_14 : decode cX6_undo 14 = .ok (.getfield 36, 3) := by decide +kernel
theorem dX6_undo_17 : decode cX6_undo 17 = .ok (.aload_n 0, 1) := by decide +kernel
theorem dX6_undo_18 : decode cX6_undo 18 = .ok (.getfield 26, 3) := by decide +kernel
theorem dX6_undo_21 : decode cX6_undo 21 = .ok (.invokevirtual 146, 3) := by decide +kernel
theorem dX6_undo_24 : decode cX6_undo 24 = .ok (.aload_n 0, 1) := by decide +kernel
theorem dX6_undo_25 : decode cX6_undo 25 = .ok (.getfield 36, 3) := by decide +kernel
theorem dX6_undo_28 : decode cX6_undo 28 = .ok (.getfield 93, 3) := by decide +kernel
theorem dX6_undo_31 : decode cX6_undo 31 = .ok (.ireturn, 1) := by decide +kernel
theorem dX6_act_0 : decode cX6_act 0 = .ok (.aload_n 0, 1) := by decide +kernel
theorem dX6_act_1 : decode cX6_act 1 = .ok (.getfield 36, 3) := by decide +kernel
theorem dX6_act_4 : decode cX6_act 4 = .ok (.aload_n 0, 1) := by decide +kernel
theorem dX6_act_5 : decode cX6_act 5 = .ok (.getfield 26, 3) := by decide +kernel
theorem dX6_act_8 : decode cX6_act 8 = .ok (.invokevirtual 142, 3) := by decide +kernel
theorem dX6_act_11 : decode cX6_act 11 = .ok (.aload_n 0, 1) := by decide +kernel
theorem dX6_act_12 : decode cX6_act 12 = .ok (.getfield 26, 3) := by decide +kernel
theorem dX6_act_15 : decode cX6_act 15 = .ok (.aload_n 0, 1) := by decide +kernel
theorem dX6_act_16 : decode cX6_act 16 = .ok (.getfield 19, 3) := by decide +kernel
theorem dX6_act_19 : decode cX6_act 19 = .ok (.iload_n 1, 1) := by decide +kernel
theorem dX6_act_20 : decode cX6_act 20 = .ok (.invokevirtual 149, 3) := by decide +kernel
theorem dX6_act_23 : decode cX6_act 23 = .ok (.ireturn, 1) := by decide +kernel
theorem dX6_best_0 : decode cX6_best 0 = .ok (.iload_n 1, 1) := by decide +kernel
theorem dX6_best_1 : decode cX6_best 1 = .ok (.iconst 1, 1) := by decide +kernel
theorem dX6_best_2 : decode cX6_best 2 = .ok (.if_icmp .lt 9, 3) := by decide +kernel
theorem dX6_best_5 : decode cX6_best 5 = .ok (.iload_n 1, 1) := by decide +kernel
theorem dX6_best_6 : decode cX6_best 6 = .ok (.bipush 6, 2) := by decide +kernel
theorem dX6_best_8 : decode cX6_best 8 = .ok (.if_icmp .le 6, 3) := by decide +kernel
theorem dX6_best_11 : decode cX6_best 11 = .ok (.bipush (-2), 2) := by decide +kernel
theorem dX6_best_13 : decode cX6_best 13 = .ok (.ireturn, 1) := by decide +kernel
theorem dX6_best_14 : decode cX6_best 14 = .ok (.iload_n 2, 1) := by decide +kernel
theorem dX6_best_15 : decode cX6_best 15 = .ok (.ifCond .eq 22, 3) := by decide +kernel
theorem dX6_best_18 : decode cX6_best 18 = .ok (.aload_n 0, 1) := by decide +kernel
theorem dX6_best_19 : decode cX6_best 19 = .ok (.getfield 43, 3) := by decide +kernel
theorem dX6_best_22 : decode cX6_best 22 = .ok (.aload_n 0, 1) := by decide +kernel
theorem dX6_best_23 : decode cX6_best 23 = .ok (.getfield 19, 3) := by decide +kernel
theorem dX6_best_26 : decode cX6_best 26 = .ok (.aload_n 0, 1) := by decide +kernel
theorem dX6_best_27 : decode cX6_best 27 = .ok (.getfield 26, 3) := by decide +kernel
theorem dX6_best_30 : decode cX6_best 30 = .ok (.iload_n 1, 1) := by decide +kernel
theorem dX6_best_31 : decode cX6_best 31 = .ok (.invokevirtual 153, 3) := by decide +kernel
theorem dX6_best_34 : decode cX6_best 34 = .ok (.goto 19, 3) := by decide +kernel
theorem dX6_best_37 : decode cX6_best 37 = .ok (.aload_n 0, 1) := by decide +kernel
theorem dX6_best_38 : decode cX6_best 38 = .ok (.getfield 43, 3) := by decide +kernel
theorem dX6_best_41 : decode cX6_best 41 = .ok (.aload_n 0, 1) := by decide +kernel
theorem dX6_best_42 : decode cX6_best 42 = .ok (.getfield 19, 3) := by decide +kernel
theorem dX6_best_45 : decode cX6_best 45 = .ok (.aload_n 0, 1) := by decide +kernel
theorem dX6_best_46 : decode cX6_best 46 = .ok (.getfield 26, 3) := by decide +kernel
theorem dX6_best_49 : decode cX6_best 49 = .ok (.iload_n 1, 1) := by decide +kernel
theorem dX6_best_50 : decode cX6_best 50 = .ok (.invokevirtual 157, 3) := by decide +kernel
theorem dX6_best_53 : decode cX6_best 53 = .ok (.ireturn, 1) := by decide +kernel
theorem dX6_fewest_0 : decode cX6_fewest 0 = .ok (.iload_n 1, 1) := by decide +kernel
theorem dX6_fewest_1 : decode cX6_fewest 1 = .ok (.iconst 1, 1) := by decide +kernel
theorem dX6_fewest_2 : decode cX6_fewest 2 = .ok (.if_icmp .lt 9, 3) := by decide +kernel
theorem dX6_fewest_5 : decode cX6_fewest 5 = .ok (.iload_n 1, 1) := by decide +kernel
theorem dX6_fewest_6 : decode cX6_fewest 6 = .ok (.bipush 99, 2) := by decide +kernel
theorem dX6_fewest_8 : decode cX6_fewest 8 = .ok (.if_icmp .le 6, 3) := by decide +kernel
theorem dX6_fewest_11 : decode cX6_fewest 11 = .ok (.bipush (-2), 2) := by decide +kernel
theorem dX6_fewest_13 : decode cX6_fewest 13 = .ok (.ireturn, 1) := by decide +kernel
theorem dX6_fewest_14 : decode cX6_fewest 14 = .ok (.iconst 1, 1) := by decide +kernel
theorem dX6_fewest_15 : decode cX6_fewest 15 = .ok (.istore_n 2, 1) := by decide +kernel
theorem dX6_fewest_16 : decode cX6_fewest 16 = .ok (.iload_n 2, 1) := by decide +kernel
theorem dX6_fewest_17 : decode cX6_fewest 17 = .ok (.bipush 6, 2) := by decide +kernel
theorem dX6_fewest_19 : decode cX6_fewest 19 = .ok (.if_icmp .gt 31, 3) := by decide +kernel
theorem dX6_fewest_22 : decode cX6_fewest 22 = .ok (.aload_n 0, 1) := by decide +kernel
theorem dX6_fewest_23 : decode cX6_fewest 23 = .ok (.getfield 43, 3) := by decide +kernel
theorem dX6_fewest_26 : decode cX6_fewest 26 = .ok (.aload_n 0, 1) := by decide +kernel
theorem dX6_fewest_27 : decode cX6_fewest 27 = .ok (.getfield 19, 3) := by decide +kernel
theorem dX6_fewest_30 : decode cX6_fewest 30 = .ok (.aload_n 0, 1) := by decide +kernel
theorem dX6_fewest_31 : decode cX6_fewest 31 = .ok (.getfield 26, 3) := by decide +kernel
theorem dX6_fewest_34 : decode cX6_fewest 34 = .ok (.iload_n 2, 1) := by decide +kernel
theorem dX6_fewest_35 : decode cX6_fewest 35 = .ok (.invokevirtual 157, 3) := by decide +kernel
theorem dX6_fewest_38 : decode cX6_fewest 38 = .ok (.iload_n 1, 1) := by decide +kernel
theorem dX6_fewest_39 : decode cX6_fewest 39 = .ok (.if_icmp .lt 5, 3) := by decide +kernel
theorem dX6_fewest_42 : decode cX6_fewest 42 = .ok (.iload_n 2, 1) := by decide +kernel
theorem dX6_fewest_43 : decode cX6_fewest 43 = .ok (.ireturn, 1) := by decide +kernel
theorem dX6_fewest_44 : decode cX6_fewest 44 = .ok (.iinc 2 1, 3) := by decide +kernel
theorem dX6_fewest_47 : decode cX6_fewest 47 = .ok (.goto (-31), 3) := by decide +kernel
theorem dX6_fewest_50 : decode cX6_fewest 50 = .ok (.bipush (-9), 2) := by decide +kernel
theorem dX6_fewest_52 : decode cX6_fewest 52 = .ok (.ireturn, 1) := by decide +kernel
theorem dX6_keys_0 : decode cX6_keys 0 = .ok (.iload_n 1, 1) := by decide +kernel
theorem dX6_keys_1 : decode cX6_keys 1 = .ok (.iconst 1, 1) := by decide +kernel
theorem dX6_keys_2 : decode cX6_keys 2 = .ok (.if_icmp .lt 18, 3) := by decide +kernel
theorem dX6_keys_5 : decode cX6_keys 5 = .ok (.iload_n 1, 1) := by decide +kernel
theorem dX6_keys_6 : decode cX6_keys 6 = .ok (.iconst 3, 1) := by decide +kernel
theorem dX6_keys_7 : decode cX6_keys 7 = .ok (.if_icmp .gt 13, 3) := by decide +kernel
theorem dX6_keys_10 : decode cX6_keys 10 = .ok (.iload_n 2, 1) := by decide +kernel
theorem dX6_keys_11 : decode cX6_keys 11 = .ok (.ifCond .lt 9, 3) := by decide +kernel
theorem dX6_keys_14 : decode cX6_keys 14 = .ok (.iload_n 2, 1) := by decide +kernel
theorem dX6_keys_15 : decode cX6_keys 15 = .ok (.bipush 99, 2) := by decide +kernel
theorem dX6_keys_17 : decode cX6_keys 17 = .ok (.if_icmp .le 6, 3) := by decide +kernel
theorem dX6_keys_20 : decode cX6_keys 20 = .ok (.bipush (-2), 2) := by decide +kernel
theorem dX6_keys_22 : decode cX6_keys 22 = .ok (.ireturn, 1) := by decide +kernel
theorem dX6_keys_23 : decode cX6_keys 23 = .ok (.bipush (-9), 2) := by decide +kernel
theorem dX6_keys_25 : decode cX6_keys 25 = .ok (.istore_n 3, 1) := by decide +kernel
theorem dX6_keys_26 : decode cX6_keys 26 = .ok (.bipush 7, 2) := by decide +kernel
theorem dX6_keys_28 : decode cX6_keys 28 = .ok (.istore 4, 2) := by decide +kernel
theorem dX6_keys_30 : decode cX6_keys 30 = .ok (.iconst 0, 1) := by decide +kernel
theorem dX6_keys_31 : decode cX6_keys 31 = .ok (.istore 5, 2) := by decide +kernel
theorem dX6_keys_33 : decode cX6_keys 33 = .ok (.iload 5, 2) := by decide +kernel
theorem dX6_keys_35 : decode cX6_keys 35 = .ok (.iconst 1, 1) := by decide +kernel
theorem dX6_keys_36 : decode cX6_keys 36 = .ok (.aload_n 0, 1) := by decide +kernel
theorem dX6_keys_37 : decode cX6_keys 37 = .ok (.getfield 19, 3) := by decide +kernel
theorem dX6_keys_40 : decode cX6_keys 40 = .ok (.getfield 96, 3) := by decide +kernel
theorem dX6_keys_43 : decode cX6_keys 43 = .ok (.ishl, 1) := by decide +kernel
theorem dX6_keys_44 : decode cX6_keys 44 = .ok (.if_icmp .ge 54, 3) := by decide +kernel
theorem dX6_keys_47 : decode cX6_keys 47 = .ok (.iload 5, 2) := by decide +kernel
theorem dX6_keys_49 : decode cX6_keys 49 = .ok (.invokestatic 160, 3) := by decide +kernel
theorem dX6_keys_52 : decode cX6_keys 52 = .ok (.istore 6, 2) := by decide +kernel
theorem dX6_keys_54 : decode cX6_keys 54 = .ok (.iload 5, 2) := by decide +kernel
theorem dX6_keys_56 : decode cX6_keys 56 = .ok (.aload_n 0, 1) := by decide +kernel
theorem dX6_keys_57 : decode cX6_keys 57 = .ok (.getfield 26, 3) := by decide +kernel
theorem dX6_keys_60 : decode cX6_keys 60 = .ok (.getfield 112, 3) := by decide +kernel
theorem dX6_keys_63 : decode cX6_keys 63 = .ok (.iand, 1) := by decide +kernel
theorem dX6_keys_64 : decode cX6_keys 64 = .ok (.ifCond .ne 28, 3) := by decide +kernel
theorem dX6_keys_67 : decode cX6_keys 67 = .ok (.iload 6, 2) := by decide +kernel
theorem dX6_keys_69 : decode cX6_keys 69 = .ok (.iload 4, 2) := by decide +kernel
theorem dX6_keys_71 : decode cX6_keys 71 = .ok (.if_icmp .ge 21, 3) := by decide +kernel
theorem dX6_keys_74 : decode cX6_keys 74 = .ok (.aload_n 0, 1) := by decide +kernel
theorem dX6_keys_75 : decode cX6_keys 75 = .ok (.iload_n 1, 1) := by decide +kernel
theorem dX6_keys_76 : decode cX6_keys 76 = .ok (.iload 5, 2) := by decide +kernel
theorem dX6_keys_78 : decode cX6_keys 78 = .ok (.invokevirtual 165, 3) := by decide +kernel
theorem dX6_keys_81 : decode cX6_keys 81 = .ok (.iload_n 2, 1) := by decide +kernel
theorem dX6_keys_82 : decode cX6_keys 82 = .ok (.if_icmp .gt 10, 3) := by decide +kernel
theorem dX6_keys_85 : decode cX6_keys 85 = .ok (.iload 5, 2) := by decide +kernel
theorem dX6_keys_87 : decode cX6_keys 87 = .ok (.istore_n 3, 1) := by decide +kernel
theorem dX6_keys_88 : decode cX6_keys 88 = .ok (.iload 6, 2) := by decide +kernel
theorem dX6_keys_90 : decode cX6_keys 90 = .ok (.istore 4, 2) := by decide +kernel
theorem dX6_keys_92 : decode cX6_keys 92 = .ok (.iinc 5 1, 3) := by decide +kernel
theorem dX6_keys_95 : decode cX6_keys 95 = .ok (.goto (-62), 3) := by decide +kernel
theorem dX6_keys_98 : decode cX6_keys 98 = .ok (.iload_n 3, 1) := by decide +kernel
theorem dX6_keys_99 : decode cX6_keys 99 = .ok (.ireturn, 1) := by decide +kernel
theorem dX6_judge_0 : decode cX6_judge 0 = .ok (.iload_n 1, 1) := by decide +kernel
theorem dX6_judge_1 : decode cX6_judge 1 = .ok (.iconst 1, 1) := by decide +kernel
theorem dX6_judge_2 : decode cX6_judge 2 = .ok (.if_icmp .lt 17, 3) := by decide +kernel
theorem dX6_judge_5 : decode cX6_judge 5 = .ok (.iload_n 1, 1) := by decide +kernel
theorem dX6_judge_6 : decode cX6_judge 6 = .ok (.bipush 8, 2) := by decide +kernel
theorem dX6_judge_8 : decode cX6_judge 8 = .ok (.if_icmp .gt 11, 3) := by decide +kernel
theorem dX6_judge_11 : decode cX6_judge 11 = .ok (.iload_n 1, 1) := by decide +kernel
theorem dX6_judge_12 : decode cX6_judge 12 = .ok (.iload_n 2, 1) := by decide +kernel
theorem dX6_judge_13 : decode cX6_judge 13 = .ok (.invokestatic 168, 3) := by decide +kernel
theorem dX6_judge_16 : decode cX6_judge 16 = .ok (.ifCond .ne 6, 3) := by decide +kernel
theorem dX6_judge_19 : decode cX6_judge 19 = .ok (.bipush (-2), 2) := by decide +kernel
theorem dX6_judge_21 : decode cX6_judge 21 = .ok (.ireturn, 1) := by decide +kernel
theorem dX6_judge_22 : decode cX6_judge 22 = .ok (.aload_n 0, 1) := by decide +kernel
theorem dX6_judge_23 : decode cX6_judge 23 = .ok (.getfield 30, 3) := by decide +kernel
theorem dX6_judge_26 : decode cX6_judge 26 = .ok (.aload_n 0, 1) := by decide +kernel
theorem dX6_judge_27 : decode cX6_judge 27 = .ok (.getfield 26, 3) := by decide +kernel
theorem dX6_judge_30 : decode cX6_judge 30 = .ok (.invokevirtual 172, 3) := by decide +kernel
theorem dX6_judge_33 : decode cX6_judge 33 = .ok (.iconst 0, 1) := by decide +kernel
theorem dX6_judge_34 : decode cX6_judge 34 = .ok (.istore_n 3, 1) := by decide +kernel
theorem dX6_judge_35 : decode cX6_judge 35 = .ok (.iload_n 3, 1) := by decide +kernel
theorem dX6_judge_36 : decode cX6_judge 36 = .ok (.iload_n 1, 1) := by decide +kernel
theorem dX6_judge_37 : decode cX6_judge 37 = .ok (.if_icmp .ge 63, 3) := by decide +kernel
theorem dX6_judge_40 : decode cX6_judge 40 = .ok (.iload_n 1, 1) := by decide +kernel
theorem dX6_judge_41 : decode cX6_judge 41 = .ok (.iload_n 2, 1) := by decide +kernel
theorem dX6_judge_42 : decode cX6_judge 42 = .ok (.iload_n 3, 1) := by decide +kernel
theorem dX6_judge_43 : decode cX6_judge 43 = .ok (.invokestatic 175, 3) := by decide +kernel
theorem dX6_judge_46 : decode cX6_judge 46 = .ok (.istore 4, 2) := by decide +kernel
theorem dX6_judge_48 : decode cX6_judge 48 = .ok (.aload_n 0, 1) := by decide +kernel
theorem dX6_judge_49 : decode cX6_judge 49 = .ok (.getfield 30, 3) := by decide +kernel
theorem dX6_judge_52 : decode cX6_judge 52 = .ok (.aload_n 0, 1) := by decide +kernel
theorem dX6_judge_53 : decode cX6_judge 53 = .ok (.getfield 19, 3) := by decide +kernel
theorem dX6_judge_56 : decode cX6_judge 56 = .ok (.iload 4, 2) := by decide +kernel
theorem dX6_judge_58 : decode cX6_judge 58 = .ok (.invokevirtual 135, 3) := by decide +kernel
theorem dX6_judge_61 : decode cX6_judge 61 = .ok (.ifCond .ne 5, 3) := by decide +kernel
theorem dX6_judge_64 : decode cX6_judge 64 = .ok (.iload_n 3, 1) := by decide +kernel
theorem dX6_judge_65 : decode cX6_judge 65 = .ok (.ireturn, 1) := by decide +kernel
theorem dX6_judge_66 : decode cX6_judge 66 = .ok (.aload_n 0, 1) := by decide +kernel
theorem dX6_judge_67 : decode cX6_judge 67 = .ok (.getfield 30, 3) := by decide +kernel
theorem dX6_judge_70 : decode cX6_judge 70 = .ok (.aload_n 0, 1) := by decide +kernel
theorem dX6_judge_71 : decode cX6_judge 71 = .ok (.getfield 19, 3) := by decide +kernel
theorem dX6_judge_74 : decode cX6_judge 74 = .ok (.iload 4, 2) := by decide +kernel
theorem dX6_judge_76 : decode cX6_judge 76 = .ok (.invokevirtual 149, 3) := by decide +kernel
theorem dX6_judge_79 : decode cX6_judge 79 = .ok (.istore 5, 2) := by decide +kernel
theorem dX6_judge_81 : decode cX6_judge 81 = .ok (.iload 4, 2) := by decide +kernel
theorem dX6_judge_83 : decode cX6_judge 83 = .ok (.iconst 2, 1) := by decide +kernel
theorem dX6_judge_84 : decode cX6_judge 84 = .ok (.if_icmp .ne 10, 3) := by decide +kernel
theorem dX6_judge_87 : decode cX6_judge 87 = .ok (.iload 5, 2) := by decide +kernel
theorem dX6_judge_89 : decode cX6_judge 89 = .ok (.ifCond .ne 5, 3) := by decide +kernel
theorem dX6_judge_92 : decode cX6_judge 92 = .ok (.iload_n 3, 1) := by decide +kernel
theorem dX6_judge_93 : decode cX6_judge 93 = .ok (.ireturn, 1) := by decide +kernel
theorem dX6_judge_94 : decode cX6_judge 94 = .ok (.iinc 3 1, 3) := by decide +kernel
theorem dX6_judge_97 : decode cX6_judge 97 = .ok (.goto (-62), 3) := by decide +kernel
theorem dX6_judge_100 : decode cX6_judge 100 = .ok (.bipush (-9), 2) := by decide +kernel
theorem dX6_judge_102 : decode cX6_judge 102 = .ok (.ireturn, 1) := by decide +kernel
theorem dX6_share_0 : decode cX6_share 0 = .ok (.aload_n 0, 1) := by decide +kernel
theorem dX6_share_1 : decode cX6_share 1 = .ok (.getfield 19, 3) := by decide +kernel
theorem dX6_share_4 : decode cX6_share 4 = .ok (.iload_n 1, 1) := by decide +kernel
theorem dX6_share_5 : decode cX6_share 5 = .ok (.invokevirtual 116, 3) := by decide +kernel
theorem dX6_share_8 : decode cX6_share 8 = .ok (.ifCond .ne 5, 3) := by decide +kernel
theorem dX6_share_11 : decode cX6_share 11 = .ok (.iconst (-1), 1) := by decide +kernel
theorem dX6_share_12 : decode cX6_share 12 = .ok (.ireturn, 1) := by decide +kernel
theorem dX6_share_13 : decode cX6_share 13 = .ok (.iconst 0, 1) := by decide +kernel
theorem dX6_share_14 : decode cX6_share 14 = .ok (.istore_n 3, 1) := by decide +kernel
theorem dX6_share_15 : decode cX6_share 15 = .ok (.iconst 0, 1) := by decide +kernel
theorem dX6_share_16 : decode cX6_share 16 = .ok (.istore 4, 2) := by decide +kernel
theorem dX6_share_18 : decode cX6_share 18 = .ok (.iload 4, 2) := by decide +kernel
theorem dX6_share_20 : decode cX6_share 20 = .ok (.iconst 1, 1) := by decide +kernel
theorem dX6_share_21 : decode cX6_share 21 = .ok (.aload_n 0, 1) := by decide +kernel
theorem dX6_share_22 : decode cX6_share 22 = .ok (.getfield 19, 3) := by decide +kernel
theorem dX6_share_25 : decode cX6_share 25 = .ok (.getfield 96, 3) := by decide +kernel
theorem dX6_share_28 : decode cX6_share 28 = .ok (.ishl, 1) := by decide +kernel
theorem dX6_share_29 : decode cX6_share 29 = .ok (.if_icmp .ge 71, 3) := by decide +kernel
theorem dX6_share_32 : decode cX6_share 32 = .ok (.iload 4, 2) := by decide +kernel
theorem dX6_share_34 : decode cX6_share 34 = .ok (.iload_n 1, 1) := by decide +kernel
theorem dX6_share_35 : decode cX6_share 35 = .ok (.ishr, 1) := by decide +kernel
theorem dX6_share_36 : decode cX6_share 36 = .ok (.iconst 1, 1) := by decide +kernel
theorem dX6_share_37 : decode cX6_share 37 = .ok (.iand, 1) := by decide +kernel
theorem dX6_share_38 : decode cX6_share 38 = .ok (.ifCond .ne 56, 3) := by decide +kernel
theorem dX6_share_41 : decode cX6_share 41 = .ok (.iload 4, 2) := by decide +kernel
theorem dX6_share_43 : decode cX6_share 43 = .ok (.invokestatic 160, 3) := by decide +kernel
theorem dX6_share_46 : decode cX6_share 46 = .ok (.istore 5, 2) := by decide +kernel
theorem dX6_share_48 : decode cX6_share 48 = .ok (.iload 5, 2) := by decide +kernel
theorem dX6_share_50 : decode cX6_share 50 = .ok (.invokestatic 179, 3) := by decide +kernel
theorem dX6_share_53 : decode cX6_share 53 = .ok (.aload_n 0, 1) := by decide +kernel
theorem dX6_share_54 : decode cX6_share 54 = .ok (.getfield 19, 3) := by decide +kernel
theorem dX6_share_57 : decode cX6_share 57 = .ok (.getfield 96, 3) := by decide +kernel
theorem dX6_share_60 : decode cX6_share 60 = .ok (.iload 5, 2) := by decide +kernel
theorem dX6_share_62 : decode cX6_share 62 = .ok (.isub, 1) := by decide +kernel
theorem dX6_share_63 : decode cX6_share 63 = .ok (.iconst 1, 1) := by decide +kernel
theorem dX6_share_64 : decode cX6_share 64 = .ok (.isub, 1) := by decide +kernel
theorem dX6_share_65 : decode cX6_share 65 = .ok (.invokestatic 179, 3) := by decide +kernel
theorem dX6_share_68 : decode cX6_share 68 = .ok (.imul, 1) := by decide +kernel
theorem dX6_share_69 : decode cX6_share 69 = .ok (.istore 6, 2) := by decide +kernel
theorem dX6_share_71 : decode cX6_share 71 = .ok (.iload_n 3, 1) := by decide +kernel
theorem dX6_share_72 : decode cX6_share 72 = .ok (.iload 6, 2) := by decide +kernel
theorem dX6_share_74 : decode cX6_share 74 = .ok (.aload_n 0, 1) := by decide +kernel
theorem dX6_share_75 : decode cX6_share 75 = .ok (.iload 4, 2) := by decide +kernel
theorem dX6_share_77 : decode cX6_share 77 = .ok (.iconst 1, 1) := by decide +kernel
theorem dX6_share_78 : decode cX6_share 78 = .ok (.iload_n 1, 1) := by decide +kernel
theorem dX6_share_79 : decode cX6_share 79 = .ok (.ishl, 1) := by decide +kernel
theorem dX6_share_80 : decode cX6_share 80 = .ok (.ior, 1) := by decide +kernel
theorem dX6_share_81 : decode cX6_share 81 = .ok (.invokevirtual 182, 3) := by decide +kernel
theorem dX6_share_84 : decode cX6_share 84 = .ok (.aload_n 0, 1) := by decide +kernel
theorem dX6_share_85 : decode cX6_share 85 = .ok (.iload 4, 2) := by decide +kernel
theorem dX6_share_87 : decode cX6_share 87 = .ok (.invokevirtual 182, 3) := by decide +kernel
theorem dX6_share_90 : decode cX6_share 90 = .ok (.isub, 1) := by decide +kernel
theorem dX6_share_91 : decode cX6_share 91 = .ok (.imul, 1) := by decide +kernel
theorem dX6_share_92 : decode cX6_share 92 = .ok (.iadd, 1) := by decide +kernel
theorem dX6_share_93 : decode cX6_share 93 = .ok (.istore_n 3, 1) := by decide +kernel
theorem dX6_share_94 : decode cX6_share 94 = .ok (.iinc 4 1, 3) := by decide +kernel
theorem dX6_share_97 : decode cX6_share 97 = .ok (.goto (-79), 3) := by decide +kernel
theorem dX6_share_100 : decode cX6_share 100 = .ok (.iload_n 3, 1) := by decide +kernel
theorem dX6_share_101 : decode cX6_share 101 = .ok (.aload_n 0, 1) := by decide +kernel
theorem dX6_share_102 : decode cX6_share 102 = .ok (.getfield 19, 3) := by decide +kernel
theorem dX6_share_105 : decode cX6_share 105 = .ok (.getfield 96, 3) := by decide +kernel
theorem dX6_share_108 : decode cX6_share 108 = .ok (.invokestatic 179, 3) := by decide +kernel
theorem dX6_share_111 : decode cX6_share 111 = .ok (.iload_n 2, 1) := by decide +kernel
theorem dX6_share_112 : decode cX6_share 112 = .ok (.invokestatic 185, 3) := by decide +kernel
theorem dX6_share_115 : decode cX6_share 115 = .ok (.ireturn, 1) := by decide +kernel
theorem dX6_bestWithKeys_0 : decode cX6_bestWithKeys 0 = .ok (.aload_n 0, 1) := by decide +kernel
theorem dX6_bestWithKeys_1 : decode cX6_bestWithKeys 1 = .ok (.getfield 30, 3) := by decide +kernel
theorem dX6_bestWithKeys_4 : decode cX6_bestWithKeys 4 = .ok (.aload_n 0, 1) := by decide +kernel
theorem dX6_bestWithKeys_5 : decode cX6_bestWithKeys 5 = .ok (.getfield 26, 3) := by decide +kernel
theorem dX6_bestWithKeys_8 : decode cX6_bestWithKeys 8 = .ok (.invokevirtual 172, 3) := by decide +kernel
theorem dX6_bestWithKeys_11 : decode cX6_bestWithKeys 11 = .ok (.aload_n 0, 1) := by decide +kernel
theorem dX6_bestWithKeys_12 : decode cX6_bestWithKeys 12 = .ok (.getfield 30, 3) := by decide +kernel
theorem dX6_bestWithKeys_15 : decode cX6_bestWithKeys 15 = .ok (.dup, 1) := by decide +kernel
theorem dX6_bestWithKeys_16 : decode cX6_bestWithKeys 16 = .ok (.getfield 112, 3) := by decide +kernel
theorem dX6_bestWithKeys_19 : decode cX6_bestWithKeys 19 = .ok (.iload_n 2, 1) := by decide +kernel
theorem dX6_bestWithKeys_20 : decode cX6_bestWithKeys 20 = .ok (.ior, 1) := by decide +kernel
theorem dX6_bestWithKeys_21 : decode cX6_bestWithKeys 21 = .ok (.putfield 112, 3) := by decide +kernel
theorem dX6_bestWithKeys_24 : decode cX6_bestWithKeys 24 = .ok (.aload_n 0, 1) := by decide +kernel
theorem dX6_bestWithKeys_25 : decode cX6_bestWithKeys 25 = .ok (.getfield 43, 3) := by decide +kernel
theorem dX6_bestWithKeys_28 : decode cX6_bestWithKeys 28 = .ok (.aload_n 0, 1) := by decide +kernel
theorem dX6_bestWithKeys_29 : decode cX6_bestWithKeys 29 = .ok (.getfield 19, 3) := by decide +kernel
theorem dX6_bestWithKeys_32 : decode cX6_bestWithKeys 32 = .ok (.aload_n 0, 1) := by decide +kernel
theorem dX6_bestWithKeys_33 : decode cX6_bestWithKeys 33 = .ok (.getfield 30, 3) := by decide +kernel
theorem dX6_bestWithKeys_36 : decode cX6_bestWithKeys 36 = .ok (.iload_n 1, 1) := by decide +kernel
theorem dX6_bestWithKeys_37 : decode cX6_bestWithKeys 37 = .ok (.invokevirtual 157, 3) := by decide +kernel
theorem dX6_bestWithKeys_40 : decode cX6_bestWithKeys 40 = .ok (.ireturn, 1) := by decide +kernel
theorem dX6_bestAmong_0 : decode cX6_bestAmong 0 = .ok (.aload_n 0, 1) := by decide +kernel
theorem dX6_bestAmong_1 : decode cX6_bestAmong 1 = .ok (.getfield 30, 3) := by decide +kernel
theorem dX6_bestAmong_4 : decode cX6_bestAmong 4 = .ok (.aload_n 0, 1) := by decide +kernel
theorem dX6_bestAmong_5 : decode cX6_bestAmong 5 = .ok (.getfield 26, 3) := by decide +kernel
theorem dX6_bestAmong_8 : decode cX6_bestAmong 8 = .ok (.invokevirtual 172, 3) := by decide +kernel
theorem dX6_bestAmong_11 : decode cX6_bestAmong 11 = .ok (.aload_n 0, 1) := by decide +kernel
theorem dX6_bestAmong_12 : decode cX6_bestAmong 12 = .ok (.getfield 30, 3) := by decide +kernel
theorem dX6_bestAmong_15 : decode cX6_bestAmong 15 = .ok (.dup, 1) := by decide +kernel
theorem dX6_bestAmong_16 : decode cX6_bestAmong 16 = .ok (.getfield 109, 3) := by decide +kernel
theorem dX6_bestAmong_19 : decode cX6_bestAmong 19 = .ok (.iload_n 1, 1) := by decide +kernel
theorem dX6_bestAmong_20 : decode cX6_bestAmong 20 = .ok (.iand, 1) := by decide +kernel
theorem dX6_bestAmong_21 : decode cX6_bestAmong 21 = .ok (.putfield 109, 3) := by decide +kernel
theorem dX6_bestAmong_24 : decode cX6_bestAmong 24 = .ok (.aload_n 0, 1) := by decide +kernel
theorem dX6_bestAmong_25 : decode cX6_bestAmong 25 = .ok (.getfield 43, 3) := by decide +kernel
theorem dX6_bestAmong_28 : decode cX6_bestAmong 28 = .ok (.aload_n 0, 1) := by decide +kernel
theorem dX6_bestAmong_29 : decode cX6_bestAmong 29 = .ok (.getfield 19, 3) := by decide +kernel
theorem dX6_bestAmong_32 : decode cX6_bestAmong 32 = .ok (.aload_n 0, 1) := by decide +kernel
theorem dX6_bestAmong_33 : decode cX6_bestAmong 33 = .ok (.getfield 30, 3) := by decide +kernel
theorem dX6_bestAmong_36 : decode cX6_bestAmong 36 = .ok (.iconst 3, 1) := by decide +kernel
theorem dX6_bestAmong_37 : decode cX6_bestAmong 37 = .ok (.invokevirtual 157, 3) := by decide +kernel
theorem dX6_bestAmong_40 : decode cX6_bestAmong 40 = .ok (.ireturn, 1) := by decide +kernel
theorem dX6_see_0 : decode cX6_see 0 = .ok (.aload_n 0, 1) := by decide +kernel
theorem dX6_see_1 : decode cX6_see 1 = .ok (.getfield 19, 3) := by decide +kernel
theorem dX6_see_4 : decode cX6_see 4 = .ok (.iload_n 1, 1) := by decide +kernel
theorem dX6_see_5 : decode cX6_see 5 = .ok (.invokevirtual 116, 3) := by decide +kernel
theorem dX6_see_8 : decode cX6_see 8 = .ok (.ifCond .ne 5, 3) := by decide +kernel
theorem dX6_see_11 : decode cX6_see 11 = .ok (.iconst (-1), 1) := by decide +kernel
theorem dX6_see_12 : decode cX6_see 12 = .ok (.ireturn, 1) := by decide +kernel
theorem dX6_see_13 : decode cX6_see 13 = .ok (.iload_n 2, 1) := by decide +kernel
theorem dX6_see_14 : decode cX6_see 14 = .ok (.ifCond .lt 31, 3) := by decide +kernel
theorem dX6_see_17 : decode cX6_see 17 = .ok (.iload_n 2, 1) := by decide +kernel
theorem dX6_see_18 : decode cX6_see 18 = .ok (.bipush 9, 2) := by decide +kernel
theorem dX6_see_20 : decode cX6_see 20 = .ok (.if_icmp .gt 25, 3) := by decide +kernel
theorem dX6_see_23 : decode cX6_see 23 = .ok (.iload_n 3, 1) := by decide +kernel
theorem dX6_see_24 : decode cX6_see 24 = .ok (.ifCond .lt 21, 3) := by decide +kernel
theorem dX6_see_27 : decode cX6_see 27 = .ok (.iload_n 3, 1) := by decide +kernel
theorem dX6_see_28 : decode cX6_see 28 = .ok (.bipush 9, 2) := by decide +kernel
theorem dX6_see_30 : decode cX6_see 30 = .ok (.if_icmp .gt 15, 3) := by decide +kernel
theorem dX6_see_33 : decode cX6_see 33 = .ok (.iload 4, 2) := by decide +kernel
theorem dX6_see_35 : decode cX6_see 35 = .ok (.ifCond .lt 10, 3) := by decide +kernel
theorem dX6_see_38 : decode cX6_see 38 = .ok (.iload 4, 2) := by decide +kernel
theorem dX6_see_40 : decode cX6_see 40 = .ok (.bipush 10, 2) := by decide +kernel
theorem dX6_see_42 : decode cX6_see 42 = .ok (.if_icmp .le 6, 3) := by decide +kernel
theorem dX6_see_45 : decode cX6_see 45 = .ok (.bipush (-2), 2) := by decide +kernel
theorem dX6_see_47 : decode cX6_see 47 = .ok (.ireturn, 1) := by decide +kernel
theorem dX6_see_48 : decode cX6_see 48 = .ok (.aload_n 0, 1) := by decide +kernel
theorem dX6_see_49 : decode cX6_see 49 = .ok (.getfield 50, 3) := by decide +kernel
theorem dX6_see_52 : decode cX6_see 52 = .ok (.getfield 115, 3) := by decide +kernel
theorem dX6_see_55 : decode cX6_see 55 = .ok (.bipush 6, 2) := by decide +kernel
theorem dX6_see_57 : decode cX6_see 57 = .ok (.if_icmp .lt 6, 3) := by decide +kernel
theorem dX6_see_60 : decode cX6_see 60 = .ok (.bipush (-4), 2) := by decide +kernel
theorem dX6_see_62 : decode cX6_see 62 = .ok (.ireturn, 1) := by decide +kernel
theorem dX6_see_63 : decode cX6_see 63 = .ok (.aload_n 0, 1) := by decide +kernel
theorem dX6_see_64 : decode cX6_see 64 = .ok (.getfield 50, 3) := by decide +kernel
theorem dX6_see_67 : decode cX6_see 67 = .ok (.iload_n 1, 1) := by decide +kernel
theorem dX6_see_68 : decode cX6_see 68 = .ok (.iload_n 2, 1) := by decide +kernel
theorem dX6_see_69 : decode cX6_see 69 = .ok (.iload_n 3, 1) := by decide +kernel
theorem dX6_see_70 : decode cX6_see 70 = .ok (.iload 4, 2) := by decide +kernel
theorem dX6_see_72 : decode cX6_see 72 = .ok (.invokevirtual 189, 3) := by decide +kernel
theorem dX6_see_75 : decode cX6_see 75 = .ok (.aload_n 0, 1) := by decide +kernel
theorem dX6_see_76 : decode cX6_see 76 = .ok (.getfield 50, 3) := by decide +kernel
theorem dX6_see_79 : decode cX6_see 79 = .ok (.getfield 115, 3) := by decide +kernel
theorem dX6_see_82 : decode cX6_see 82 = .ok (.ireturn, 1) := by decide +kernel
theorem dX6_unsee_0 : decode cX6_unsee 0 = .ok (.aload_n 0, 1) := by decide +kernel
theorem dX6_unsee_1 : decode cX6_unsee 1 = .ok (.getfield 50, 3) := by decide +kernel
theorem dX6_unsee_4 : decode cX6_unsee 4 = .ok (.getfield 115, 3) := by decide +kernel
theorem dX6_unsee_7 : decode cX6_unsee 7 = .ok (.istore_n 1, 1) := by decide +kernel
theorem dX6_unsee_8 : decode cX6_unsee 8 = .ok (.aload_n 0, 1) := by decide +kernel
theorem dX6_unsee_9 : decode cX6_unsee 9 = .ok (.getfield 50, 3) := by decide +kernel
theorem dX6_unsee_12 : decode cX6_unsee 12 = .ok (.iconst 0, 1) := by decide +kernel
theorem dX6_unsee_13 : decode cX6_unsee 13 = .ok (.putfield 115, 3) := by decide +kernel
theorem dX6_unsee_16 : decode cX6_unsee 16 = .ok (.iload_n 1, 1) := by decide +kernel
theorem dX6_unsee_17 : decode cX6_unsee 17 = .ok (.ireturn, 1) := by decide +kernel
theorem dX6_shapes_0 : decode cX6_shapes 0 = .ok (.aload_n 0, 1) := by decide +kernel
theorem dX6_shapes_1 : decode cX6_shapes 1 = .ok (.getfield 19, 3) := by decide +kernel
theorem dX6_shapes_4 : decode cX6_shapes 4 = .ok (.iload_n 1, 1) := by decide +kernel
theorem dX6_shapes_5 : decode cX6_shapes 5 = .ok (.invokevirtual 116, 3) := by decide +kernel
theorem dX6_shapes_8 : decode cX6_shapes 8 = .ok (.ifCond .ne 5, 3) := by decide +kernel
theorem dX6_shapes_11 : decode cX6_shapes 11 = .ok (.iconst (-1), 1) := by decide +kernel
theorem dX6_shapes_12 : decode cX6_shapes 12 = .ok (.ireturn, 1) := by decide +kernel
theorem dX6_shapes_13 : decode cX6_shapes 13 = .ok (.iconst 0, 1) := by decide +kernel
theorem dX6_shapes_14 : decode cX6_shapes 14 = .ok (.istore_n 2, 1) := by decide +kernel
theorem dX6_shapes_15 : decode cX6_shapes 15 = .ok (.iconst 0, 1) := by decide +kernel
theorem dX6_shapes_16 : decode cX6_shapes 16 = .ok (.istore_n 3, 1) := by decide +kernel
theorem dX6_shapes_17 : decode cX6_shapes 17 = .ok (.iload_n 3, 1) := by decide +kernel
theorem dX6_shapes_18 : decode cX6_shapes 18 = .ok (.iconst 3, 1) := by decide +kernel
theorem dX6_shapes_19 : decode cX6_shapes 19 = .ok (.if_icmp .gt 27, 3) := by decide +kernel
theorem dX6_shapes_22 : decode cX6_shapes 22 = .ok (.aload_n 0, 1) := by decide +kernel
theorem dX6_shapes_23 : decode cX6_shapes 23 = .ok (.getfield 50, 3) := by decide +kernel
theorem dX6_shapes_26 : decode cX6_shapes 26 = .ok (.iload_n 1, 1) := by decide +kernel
theorem dX6_shapes_27 : decode cX6_shapes 27 = .ok (.iload_n 3, 1) := by decide +kernel
theorem dX6_shapes_28 : decode cX6_shapes 28 = .ok (.invokevirtual 192, 3) := by decide +kernel
theorem dX6_shapes_31 : decode cX6_shapes 31 = .ok (.ifCond .eq 9, 3) := by decide +kernel
theorem dX6_shapes_34 : decode cX6_shapes 34 = .ok (.iload_n 2, 1) := by decide +kernel
theorem dX6_shapes_35 : decode cX6_shapes 35 = .ok (.iconst 1, 1) := by decide +kernel
theorem dX6_shapes_36 : decode cX6_shapes 36 = .ok (.iload_n 3, 1) := by decide +kernel
theorem dX6_shapes_37 : decode cX6_shapes 37 = .ok (.ishl, 1) := by decide +kernel
theorem dX6_shapes_38 : decode cX6_shapes 38 = .ok (.ior, 1) := by decide +kernel
theorem dX6_shapes_39 : decode cX6_shapes 39 = .ok (.istore_n 2, 1) := by decide +kernel
theorem dX6_shapes_40 : decode cX6_shapes 40 = .ok (.iinc 3 1, 3) := by decide +kernel
theorem dX6_shapes_43 : decode cX6_shapes 43 = .ok (.goto (-26), 3) := by decide +kernel
theorem dX6_shapes_46 : decode cX6_shapes 46 = .ok (.iload_n 2, 1) := by decide +kernel
theorem dX6_shapes_47 : decode cX6_shapes 47 = .ok (.ireturn, 1) := by decide +kernel
theorem dX6_rests_0 : decode cX6_rests 0 = .ok (.iload_n 1, 1) := by decide +kernel
theorem dX6_rests_1 : decode cX6_rests 1 = .ok (.ifCond .eq 11, 3) := by decide +kernel
theorem dX6_rests_4 : decode cX6_rests 4 = .ok (.iload_n 1, 1) := by decide +kernel
theorem dX6_rests_5 : decode cX6_rests 5 = .ok (.iconst 1, 1) := by decide +kernel
theorem dX6_rests_6 : decode cX6_rests 6 = .ok (.if_icmp .eq 6, 3) := by decide +kernel
theorem dX6_rests_9 : decode cX6_rests 9 = .ok (.bipush (-2), 2) := by decide +kernel
theorem dX6_rests_11 : decode cX6_rests 11 = .ok (.ireturn, 1) := by decide +kernel
theorem dX6_rests_12 : decode cX6_rests 12 = .ok (.iconst 0, 1) := by decide +kernel
theorem dX6_rests_13 : decode cX6_rests 13 = .ok (.istore_n 2, 1) := by decide +kernel
theorem dX6_rests_14 : decode cX6_rests 14 = .ok (.bipush (-9), 2) := by decide +kernel
theorem dX6_rests_16 : decode cX6_rests 16 = .ok (.istore_n 3, 1) := by decide +kernel
theorem dX6_rests_17 : decode cX6_rests 17 = .ok (.iconst 0, 1) := by decide +kernel
theorem dX6_rests_18 : decode cX6_rests 18 = .ok (.istore 4, 2) := by decide +kernel
theorem dX6_rests_20 : decode cX6_rests 20 = .ok (.iload 4, 2) := by decide +kernel
theorem dX6_rests_22 : decode cX6_rests 22 = .ok (.aload_n 0, 1) := by decide +kernel
theorem dX6_rests_23 : decode cX6_rests 23 = .ok (.getfield 19, 3) := by decide +kernel
theorem dX6_rests_26 : decode cX6_rests 26 = .ok (.getfield 96, 3) := by decide +kernel
theorem dX6_rests_29 : decode cX6_rests 29 = .ok (.if_icmp .ge 72, 3) := by decide +kernel
theorem dX6_rests_32 : decode cX6_rests 32 = .ok (.iconst 0, 1) := by decide +kernel
theorem dX6_rests_33 : decode cX6_rests 33 = .ok (.istore 5, 2) := by decide +kernel
theorem dX6_rests_35 : decode cX6_rests 35 = .ok (.iload 5, 2) := by decide +kernel
theorem dX6_rests_37 : decode cX6_rests 37 = .ok (.aload_n 0, 1) := by decide +kernel
theorem dX6_rests_38 : decode cX6_rests 38 = .ok (.getfield 19, 3) := by decide +kernel
theorem dX6_rests_41 : decode cX6_rests 41 = .ok (.getfield 96, 3) := by decide +kernel
theorem dX6_rests_44 : decode cX6_rests 44 = .ok (.if_icmp .ge 51, 3) := by decide +kernel
theorem dX6_rests_47 : decode cX6_rests 47 = .ok (.aload_n 0, 1) := by decide +kernel
theorem dX6_rests_48 : decode cX6_rests 48 = .ok (.iload 4, 2) := by decide +kernel
theorem dX6_rests_50 : decode cX6_rests 50 = .ok (.iload 5, 2) := by decide +kernel
theorem dX6_rests_52 : decode cX6_rests 52 = .ok (.invokevirtual 195, 3) := by decide +kernel
theorem dX6_rests_55 : decode cX6_rests 55 = .ok (.ifCond .eq 34, 3) := by decide +kernel
theorem dX6_rests_58 : decode cX6_rests 58 = .ok (.aload_n 0, 1) := by decide +kernel
theorem dX6_rests_59 : decode cX6_rests 59 = .ok (.iload 5, 2) := by decide +kernel
theorem dX6_rests_61 : decode cX6_rests 61 = .ok (.iload 4, 2) := by decide +kernel
theorem dX6_rests_63 : decode cX6_rests 63 = .ok (.invokevirtual 195, 3) := by decide +kernel
theorem dX6_rests_66 : decode cX6_rests 66 = .ok (.ifCond .eq 23, 3) := by decide +kernel
theorem dX6_rests_69 : decode cX6_rests 69 = .ok (.iload_n 2, 1) := by decide +kernel
theorem dX6_rests_70 : decode cX6_rests 70 = .ok (.ifCond .ne 14, 3) := by decide +kernel
theorem dX6_rests_73 : decode cX6_rests 73 = .ok (.bipush 10, 2) := by decide +kernel
theorem dX6_rests_75 : decode cX6_rests 75 = .ok (.iload 4, 2) := by decide +kernel
theorem dX6_rests_77 : decode cX6_rests 77 = .ok (.imul, 1) := by decide +kernel
theorem dX6_rests_78 : decode cX6_rests 78 = .ok (.iload 5, 2) := by decide +kernel
theorem dX6_rests_80 : decode cX6_rests 80 = .ok (.iadd, 1) := by decide +kernel
theorem dX6_rests_81 : decode cX6_rests 81 = .ok (.goto 4, 3) := by decide +kernel
theorem dX6_rests_84 : decode cX6_rests 84 = .ok (.iload_n 3, 1) := by decide +kernel
theorem dX6_rests_85 : decode cX6_rests 85 = .ok (.istore_n 3, 1) := by decide +kernel
theorem dX6_rests_86 : decode cX6_rests 86 = .ok (.iinc 2 1, 3) := by decide +kernel
theorem dX6_rests_89 : decode cX6_rests 89 = .ok (.iinc 5 1, 3) := by decide +kernel
theorem dX6_rests_92 : decode cX6_rests 92 = .ok (.goto (-57), 3) := by decide +kernel
theorem dX6_rests_95 : decode cX6_rests 95 = .ok (.iinc 4 1, 3) := by decide +kernel
theorem dX6_rests_98 : decode cX6_rests 98 = .ok (.goto (-78), 3) := by decide +kernel
theorem dX6_rests_101 : decode cX6_rests 101 = .ok (.iload_n 1, 1) := by decide +kernel
theorem dX6_rests_102 : decode cX6_rests 102 = .ok (.ifCond .ne 7, 3) := by decide +kernel
theorem dX6_rests_105 : decode cX6_rests 105 = .ok (.iload_n 2, 1) := by decide +kernel
theorem dX6_rests_106 : decode cX6_rests 106 = .ok (.goto 4, 3) := by decide +kernel
theorem dX6_rests_109 : decode cX6_rests 109 = .ok (.iload_n 3, 1) := by decide +kernel
theorem dX6_rests_110 : decode cX6_rests 110 = .ok (.ireturn, 1) := by decide +kernel
theorem dX6_chance_0 : decode cX6_chance 0 = .ok (.iload_n 1, 1) := by decide +kernel
theorem dX6_chance_1 : decode cX6_chance 1 = .ok (.iconst 1, 1) := by decide +kernel
theorem dX6_chance_2 : decode cX6_chance 2 = .ok (.if_icmp .lt 39, 3) := by decide +kernel
theorem dX6_chance_5 : decode cX6_chance 5 = .ok (.iload_n 1, 1) := by decide +kernel
theorem dX6_chance_6 : decode cX6_chance 6 = .ok (.bipush 6, 2) := by decide +kernel
theorem dX6_chance_8 : decode cX6_chance 8 = .ok (.if_icmp .gt 33, 3) := by decide +kernel
theorem dX6_chance_11 : decode cX6_chance 11 = .ok (.iload_n 1, 1) := by decide +kernel
theorem dX6_chance_12 : decode cX6_chance 12 = .ok (.iload_n 2, 1) := by decide +kernel
theorem dX6_chance_13 : decode cX6_chance 13 = .ok (.invokestatic 168, 3) := by decide +kernel
theorem dX6_chance_16 : decode cX6_chance 16 = .ok (.ifCond .eq 25, 3) := by decide +kernel
theorem dX6_chance_19 : decode cX6_chance 19 = .ok (.iload_n 3, 1) := by decide +kernel
theorem dX6_chance_20 : decode cX6_chance 20 = .ok (.ifCond .lt 21, 3) := by decide +kernel
theorem dX6_chance_23 : decode cX6_chance 23 = .ok (.iload_n 3, 1) := by decide +kernel
theorem dX6_chance_24 : decode cX6_chance 24 = .ok (.bipush 99, 2) := by decide +kernel
theorem dX6_chance_26 : decode cX6_chance 26 = .ok (.if_icmp .gt 15, 3) := by decide +kernel
theorem dX6_chance_29 : decode cX6_chance 29 = .ok (.iload 4, 2) := by decide +kernel
theorem dX6_chance_31 : decode cX6_chance 31 = .ok (.ifCond .lt 10, 3) := by decide +kernel
theorem dX6_chance_34 : decode cX6_chance 34 = .ok (.iload 4, 2) := by decide +kernel
theorem dX6_chance_36 : decode cX6_chance 36 = .ok (.bipush 10, 2) := by decide +kernel
theorem dX6_chance_38 : decode cX6_chance 38 = .ok (.if_icmp .le 6, 3) := by decide +kernel
theorem dX6_chance_41 : decode cX6_chance 41 = .ok (.bipush (-2), 2) := by decide +kernel
theorem dX6_chance_43 : decode cX6_chance 43 = .ok (.ireturn, 1) := by decide +kernel
theorem dX6_chance_44 : decode cX6_chance 44 = .ok (.aload_n 0, 1) := by decide +kernel
theorem dX6_chance_45 : decode cX6_chance 45 = .ok (.iload_n 1, 1) := by decide +kernel
theorem dX6_chance_46 : decode cX6_chance 46 = .ok (.iload_n 2, 1) := by decide +kernel
theorem dX6_chance_47 : decode cX6_chance 47 = .ok (.invokevirtual 198, 3) := by decide +kernel
theorem dX6_chance_50 : decode cX6_chance 50 = .ok (.istore 6, 2) := by decide +kernel
theorem dX6_chance_52 : decode cX6_chance 52 = .ok (.iload 6, 2) := by decide +kernel
theorem dX6_chance_54 : decode cX6_chance 54 = .ok (.ifCond .ge 11, 3) := by decide +kernel
theorem dX6_chance_57 : decode cX6_chance 57 = .ok (.iconst 0, 1) := by decide +kernel
theorem dX6_chance_58 : decode cX6_chance 58 = .ok (.iconst 1, 1) := by decide +kernel
theorem dX6_chance_59 : decode cX6_chance 59 = .ok (.iload 5, 2) := by decide +kernel
theorem dX6_chance_61 : decode cX6_chance 61 = .ok (.invokestatic 185, 3) := by decide +kernel
theorem dX6_chance_64 : decode cX6_chance 64 = .ok (.ireturn, 1) := by decide +kernel
theorem dX6_chance_65 : decode cX6_chance 65 = .ok (.iconst 0, 1) := by decide +kernel
theorem dX6_chance_66 : decode cX6_chance 66 = .ok (.istore 7, 2) := by decide +kernel
theorem dX6_chance_68 : decode cX6_chance 68 = .ok (.iconst 0, 1) := by decide +kernel
theorem dX6_chance_69 : decode cX6_chance 69 = .ok (.istore 8, 2) := by decide +kernel
theorem dX6_chance_71 : decode cX6_chance 71 = .ok (.iload 8, 2) := by decide +kernel
theorem dX6_chance_73 : decode cX6_chance 73 = .ok (.iconst 1, 1) := by decide +kernel
theorem dX6_chance_74 : decode cX6_chance 74 = .ok (.iload 6, 2) := by decide +kernel
theorem dX6_chance_76 : decode cX6_chance 76 = .ok (.ishl, 1) := by decide +kernel
theorem dX6_chance_77 : decode cX6_chance 77 = .ok (.if_icmp .ge 35, 3) := by decide +kernel
theorem dX6_chance_80 : decode cX6_chance 80 = .ok (.aload_n 0, 1) := by decide +kernel
theorem dX6_chance_81 : decode cX6_chance 81 = .ok (.iload 6, 2) := by decide +kernel
theorem dX6_chance_83 : decode cX6_chance 83 = .ok (.iload 8, 2) := by decide +kernel
theorem dX6_chance_85 : decode cX6_chance 85 = .ok (.invokevirtual 201, 3) := by decide +kernel
theorem dX6_chance_88 : decode cX6_chance 88 = .ok (.iload_n 3, 1) := by decide +kernel
theorem dX6_chance_89 : decode cX6_chance 89 = .ok (.if_icmp .lt 17, 3) := by decide +kernel
theorem dX6_chance_92 : decode cX6_chance 92 = .ok (.iload 7, 2) := by decide +kernel
theorem dX6_chance_94 : decode cX6_chance 94 = .ok (.iload 6, 2) := by decide +kernel
theorem dX6_chance_96 : decode cX6_chance 96 = .ok (.iload 8, 2) := by decide +kernel
theorem dX6_chance_98 : decode cX6_chance 98 = .ok (.iload 4, 2) := by decide +kernel
theorem dX6_chance_100 : decode cX6_chance 100 = .ok (.invokestatic 204, 3) := by decide +kernel
theorem dX6_chance_103 : decode cX6_chance 103 = .ok (.iadd, 1) := by decide +kernel
theorem dX6_chance_104 : decode cX6_chance 104 = .ok (.istore 7, 2) := by decide +kernel
theorem dX6_chance_106 : decode cX6_chance 106 = .ok (.iinc 8 1, 3) := by decide +kernel
theorem dX6_chance_109 : decode cX6_chance 109 = .ok (.goto (-38), 3) := by decide +kernel
theorem dX6_chance_112 : decode cX6_chance 112 = .ok (.iload 7, 2) := by decide +kernel
theorem dX6_chance_114 : decode cX6_chance 114 = .ok (.bipush 10, 2) := by decide +kernel
theorem dX6_chance_116 : decode cX6_chance 116 = .ok (.iload 6, 2) := by decide +kernel
theorem dX6_chance_118 : decode cX6_chance 118 = .ok (.invokestatic 207, 3) := by decide +kernel
theorem dX6_chance_121 : decode cX6_chance 121 = .ok (.iload 5, 2) := by decide +kernel
theorem dX6_chance_123 : decode cX6_chance 123 = .ok (.invokestatic 185, 3) := by decide +kernel
theorem dX6_chance_126 : decode cX6_chance 126 = .ok (.ireturn, 1) := by decide +kernel
theorem dX6_seed_0 : decode cX6_seed 0 = .ok (.aload_n 0, 1) := by decide +kernel
theorem dX6_seed_1 : decode cX6_seed 1 = .ok (.getfield 70, 3) := by decide +kernel
theorem dX6_seed_4 : decode cX6_seed 4 = .ok (.lstore_n 3, 1) := by decide +kernel
theorem dX6_seed_5 : decode cX6_seed 5 = .ok (.aload_n 0, 1) := by decide +kernel
theorem dX6_seed_6 : decode cX6_seed 6 = .ok (.lload_n 1, 1) := by decide +kernel
theorem dX6_seed_7 : decode cX6_seed 7 = .ok (.putfield 70, 3) := by decide +kernel
theorem dX6_seed_10 : decode cX6_seed 10 = .ok (.lload_n 3, 1) := by decide +kernel
theorem dX6_seed_11 : decode cX6_seed 11 = .ok (.lreturn, 1) := by decide +kernel
theorem dX6_rounds_0 : decode cX6_rounds 0 = .ok (.iload_n 1, 1) := by decide +kernel
theorem dX6_rounds_1 : decode cX6_rounds 1 = .ok (.iconst 1, 1) := by decide +kernel
theorem dX6_rounds_2 : decode cX6_rounds 2 = .ok (.if_icmp .lt 9, 3) := by decide +kernel
theorem dX6_rounds_5 : decode cX6_rounds 5 = .ok (.iload_n 1, 1) := by decide +kernel
theorem dX6_rounds_6 : decode cX6_rounds 6 = .ok (.bipush 30, 2) := by decide +kernel
theorem dX6_rounds_8 : decode cX6_rounds 8 = .ok (.if_icmp .le 6, 3) := by decide +kernel
theorem dX6_rounds_11 : decode cX6_rounds 11 = .ok (.bipush (-2), 2) := by decide +kernel
theorem dX6_rounds_13 : decode cX6_rounds 13 = .ok (.ireturn, 1) := by decide +kernel
theorem dX6_rounds_14 : decode cX6_rounds 14 = .ok (.aload_n 0, 1) := by decide +kernel
theorem dX6_rounds_15 : decode cX6_rounds 15 = .ok (.getfield 30, 3) := by decide +kernel
theorem dX6_rounds_18 : decode cX6_rounds 18 = .ok (.aload_n 0, 1) := by decide +kernel
theorem dX6_rounds_19 : decode cX6_rounds 19 = .ok (.getfield 26, 3) := by decide +kernel
theorem dX6_rounds_22 : decode cX6_rounds 22 = .ok (.invokevirtual 172, 3) := by decide +kernel
theorem dX6_rounds_25 : decode cX6_rounds 25 = .ok (.iconst 0, 1) := by decide +kernel
theorem dX6_rounds_26 : decode cX6_rounds 26 = .ok (.istore_n 2, 1) := by decide +kernel
theorem dX6_rounds_27 : decode cX6_rounds 27 = .ok (.iload_n 2, 1) := by decide +kernel
theorem dX6_rounds_28 : decode cX6_rounds 28 = .ok (.iload_n 1, 1) := by decide +kernel
theorem dX6_rounds_29 : decode cX6_rounds 29 = .ok (.if_icmp .ge 41, 3) := by decide +kernel
theorem dX6_rounds_32 : decode cX6_rounds 32 = .ok (.aload_n 0, 1) := by decide +kernel
theorem dX6_rounds_33 : decode cX6_rounds 33 = .ok (.aload_n 0, 1) := by decide +kernel
theorem dX6_rounds_34 : decode cX6_rounds 34 = .ok (.getfield 70, 3) := by decide +kernel
theorem dX6_rounds_37 : decode cX6_rounds 37 = .ok (.ldc2_w 210, 3) := by decide +kernel
theorem dX6_rounds_40 : decode cX6_rounds 40 = .ok (.lmul, 1) := by decide +kernel
theorem dX6_rounds_41 : decode cX6_rounds 41 = .ok (.ldc2_w 212, 3) := by decide +kernel
theorem dX6_rounds_44 : decode cX6_rounds 44 = .ok (.ladd, 1) := by decide +kernel
theorem dX6_rounds_45 : decode cX6_rounds 45 = .ok (.putfield 70, 3) := by decide +kernel
theorem dX6_rounds_48 : decode cX6_rounds 48 = .ok (.aload_n 0, 1) := by decide +kernel
theorem dX6_rounds_49 : decode cX6_rounds 49 = .ok (.aload_n 0, 1) := by decide +kernel
theorem dX6_rounds_50 : decode cX6_rounds 50 = .ok (.getfield 70, 3) := by decide +kernel
theorem dX6_rounds_53 : decode cX6_rounds 53 = .ok (.bipush 33, 2) := by decide +kernel
theorem dX6_rounds_55 : decode cX6_rounds 55 = .ok (.lushr, 1) := by decide +kernel
theorem dX6_rounds_56 : decode cX6_rounds 56 = .ok (.ldc2_w 214, 3) := by decide +kernel
theorem dX6_rounds_59 : decode cX6_rounds 59 = .ok (.lrem, 1) := by decide +kernel
theorem dX6_rounds_60 : decode cX6_rounds 60 = .ok (.l2i, 1) := by decide +kernel
theorem dX6_rounds_61 : decode cX6_rounds 61 = .ok (.invokevirtual 216, 3) := by decide +kernel
theorem dX6_rounds_64 : decode cX6_rounds 64 = .ok (.iinc 2 1, 3) := by decide +kernel
theorem dX6_rounds_67 : decode cX6_rounds 67 = .ok (.goto (-40), 3) := by decide +kernel
theorem dX6_rounds_70 : decode cX6_rounds 70 = .ok (.aload_n 0, 1) := by decide +kernel
theorem dX6_rounds_71 : decode cX6_rounds 71 = .ok (.getfield 30, 3) := by decide +kernel
theorem dX6_rounds_74 : decode cX6_rounds 74 = .ok (.getfield 106, 3) := by decide +kernel
theorem dX6_rounds_77 : decode cX6_rounds 77 = .ok (.aload_n 0, 1) := by decide +kernel
theorem dX6_rounds_78 : decode cX6_rounds 78 = .ok (.getfield 26, 3) := by decide +kernel
theorem dX6_rounds_81 : decode cX6_rounds 81 = .ok (.getfield 106, 3) := by decide +kernel
theorem dX6_rounds_84 : decode cX6_rounds 84 = .ok (.isub, 1) := by decide +kernel
theorem dX6_rounds_85 : decode cX6_rounds 85 = .ok (.ireturn, 1) := by decide +kernel
theorem dX6_isContent_0 : decode cX6_isContent 0 = .ok (.aload_n 0, 1) := by decide +kernel
theorem dX6_isContent_1 : decode cX6_isContent 1 = .ok (.iload_n 1, 1) := by decide +kernel
theorem dX6_isContent_2 : decode cX6_isContent 2 = .ok (.iload_n 2, 1) := by decide +kernel
theorem dX6_isContent_3 : decode cX6_isContent 3 = .ok (.invokevirtual 219, 3) := by decide +kernel
theorem dX6_isContent_6 : decode cX6_isContent 6 = .ok (.istore_n 3, 1) := by decide +kernel
theorem dX6_isContent_7 : decode cX6_isContent 7 = .ok (.iconst 0, 1) := by decide +kernel
theorem dX6_isContent_8 : decode cX6_isContent 8 = .ok (.istore 4, 2) := by decide +kernel
theorem dX6_isContent_10 : decode cX6_isContent 10 = .ok (.iload 4, 2) := by decide +kernel
theorem dX6_isContent_12 : decode cX6_isContent 12 = .ok (.aload_n 0, 1) := by decide +kernel
theorem dX6_isContent_13 : decode cX6_isContent 13 = .ok (.getfield 19, 3) := by decide +kernel
theorem dX6_isContent_16 : decode cX6_isContent 16 = .ok (.getfield 96, 3) := by decide +kernel
theorem dX6_isContent_19 : decode cX6_isContent 19 = .ok (.if_icmp .ge 22, 3) := by decide +kernel
theorem dX6_isContent_22 : decode cX6_isContent 22 = .ok (.aload_n 0, 1) := by decide +kernel
theorem dX6_isContent_23 : decode cX6_isContent 23 = .ok (.iload 4, 2) := by decide +kernel
theorem dX6_isContent_25 : decode cX6_isContent 25 = .ok (.iload_n 2, 1) := by decide +kernel
theorem dX6_isContent_26 : decode cX6_isContent 26 = .ok (.invokevirtual 219, 3) := by decide +kernel
theorem dX6_isContent_29 : decode cX6_isContent 29 = .ok (.iload_n 3, 1) := by decide +kernel
theorem dX6_isContent_30 : decode cX6_isContent 30 = .ok (.if_icmp .le 5, 3) := by decide +kernel
theorem dX6_isContent_33 : decode cX6_isContent 33 = .ok (.iconst 0, 1) := by decide +kernel
theorem dX6_isContent_34 : decode cX6_isContent 34 = .ok (.ireturn, 1) := by decide +kernel
theorem dX6_isContent_35 : decode cX6_isContent 35 = .ok (.iinc 4 1, 3) := by decide +kernel
theorem dX6_isContent_38 : decode cX6_isContent 38 = .ok (.goto (-28), 3) := by decide +kernel
theorem dX6_isContent_41 : decode cX6_isContent 41 = .ok (.iconst 1, 1) := by decide +kernel
theorem dX6_isContent_42 : decode cX6_isContent 42 = .ok (.ireturn, 1) := by decide +kernel
theorem dX6_restJoy_0 : decode cX6_restJoy 0 = .ok (.aload_n 0, 1) := by decide +kernel
theorem dX6_restJoy_1 : decode cX6_restJoy 1 = .ok (.getfield 26, 3) := by decide +kernel
theorem dX6_restJoy_4 : decode cX6_restJoy 4 = .ok (.aload_n 0, 1) := by decide +kernel
theorem dX6_restJoy_5 : decode cX6_restJoy 5 = .ok (.getfield 19, 3) := by decide +kernel
theorem dX6_restJoy_8 : decode cX6_restJoy 8 = .ok (.iload_n 1, 1) := by decide +kernel
theorem dX6_restJoy_9 : decode cX6_restJoy 9 = .ok (.aload_n 0, 1) := by decide +kernel
theorem dX6_restJoy_10 : decode cX6_restJoy 10 = .ok (.getfield 26, 3) := by decide +kernel
theorem dX6_restJoy_13 : decode cX6_restJoy 13 = .ok (.getfield 103, 3) := by decide +kernel
theorem dX6_restJoy_16 : decode cX6_restJoy 16 = .ok (.invokevirtual 131, 3) := by decide +kernel
theorem dX6_restJoy_19 : decode cX6_restJoy 19 = .ok (.istore_n 3, 1) := by decide +kernel
theorem dX6_restJoy_20 : decode cX6_restJoy 20 = .ok (.iload_n 1, 1) := by decide +kernel
theorem dX6_restJoy_21 : decode cX6_restJoy 21 = .ok (.iload_n 2, 1) := by decide +kernel
theorem dX6_restJoy_22 : decode cX6_restJoy 22 = .ok (.if_icmp .ne 9, 3) := by decide +kernel
theorem dX6_restJoy_25 : decode cX6_restJoy 25 = .ok (.iload_n 3, 1) := by decide +kernel
theorem dX6_restJoy_26 : decode cX6_restJoy 26 = .ok (.iconst 2, 1) := by decide +kernel
theorem dX6_restJoy_27 : decode cX6_restJoy 27 = .ok (.idiv, 1) := by decide +kernel
theorem dX6_restJoy_28 : decode cX6_restJoy 28 = .ok (.goto 4, 3) := by decide +kernel
theorem dX6_restJoy_31 : decode cX6_restJoy 31 = .ok (.iload_n 3, 1) := by decide +kernel
theorem dX6_restJoy_32 : decode cX6_restJoy 32 = .ok (.ireturn, 1) := by decide +kernel
theorem dX6_gatherGains_0 : decode cX6_gatherGains 0 = .ok (.iconst 0, 1) := by decide +kernel
theorem dX6_gatherGains_1 : decode cX6_gatherGains 1 = .ok (.istore_n 3, 1) := by decide +kernel
theorem dX6_gatherGains_2 : decode cX6_gatherGains 2 = .ok (.aload_n 0, 1) := by decide +kernel
theorem dX6_gatherGains_3 : decode cX6_gatherGains 3 = .ok (.getfield 30, 3) := by decide +kernel
theorem dX6_gatherGains_6 : decode cX6_gatherGains 6 = .ok (.aload_n 0, 1) := by decide +kernel
theorem dX6_gatherGains_7 : decode cX6_gatherGains 7 = .ok (.getfield 26, 3) := by decide +kernel
theorem dX6_gatherGains_10 : decode cX6_gatherGains 10 = .ok (.invokevirtual 172, 3) := by decide +kernel
theorem dX6_gatherGains_13 : decode cX6_gatherGains 13 = .ok (.iconst 0, 1) := by decide +kernel
theorem dX6_gatherGains_14 : decode cX6_gatherGains 14 = .ok (.istore 4, 2) := by decide +kernel
theorem dX6_gatherGains_16 : decode cX6_gatherGains 16 = .ok (.iload 4, 2) := by decide +kernel
theorem dX6_gatherGains_18 : decode cX6_gatherGains 18 = .ok (.iload_n 1, 1) := by decide +kernel
theorem dX6_gatherGains_19 : decode cX6_gatherGains 19 = .ok (.if_icmp .ge 77, 3) := by decide +kernel
theorem dX6_gatherGains_22 : decode cX6_gatherGains 22 = .ok (.iload_n 1, 1) := by decide +kernel
theorem dX6_gatherGains_23 : decode cX6_gatherGains 23 = .ok (.iload_n 2, 1) := by decide +kernel
theorem dX6_gatherGains_24 : decode cX6_gatherGains 24 = .ok (.iload 4, 2) := by decide +kernel
theorem dX6_gatherGains_26 : decode cX6_gatherGains 26 = .ok (.invokestatic 175, 3) := by decide +kernel
theorem dX6_gatherGains_29 : decode cX6_gatherGains 29 = .ok (.istore 5, 2) := by decide +kernel
theorem dX6_gatherGains_31 : decode cX6_gatherGains 31 = .ok (.aload_n 0, 1) := by decide +kernel
theorem dX6_gatherGains_32 : decode cX6_gatherGains 32 = .ok (.getfield 30, 3) := by decide +kernel
theorem dX6_gatherGains_35 : decode cX6_gatherGains 35 = .ok (.aload_n 0, 1) := by decide +kernel
theorem dX6_gatherGains_36 : decode cX6_gatherGains 36 = .ok (.getfield 19, 3) := by decide +kernel
theorem dX6_gatherGains_39 : decode cX6_gatherGains 39 = .ok (.iload 5, 2) := by decide +kernel
theorem dX6_gatherGains_41 : decode cX6_gatherGains 41 = .ok (.invokevirtual 135, 3) := by decide +kernel
theorem dX6_gatherGains_44 : decode cX6_gatherGains 44 = .ok (.ifCond .ne 5, 3) := by decide +kernel
theorem dX6_gatherGains_47 : decode cX6_gatherGains 47 = .ok (.iconst (-1), 1) := by decide +kernel
theorem dX6_gatherGains_48 : decode cX6_gatherGains 48 = .ok (.ireturn, 1) := by decide +kernel
theorem dX6_gatherGains_49 : decode cX6_gatherGains 49 = .ok (.aload_n 0, 1) := by decide +kernel
theorem dX6_gatherGains_50 : decode cX6_gatherGains 50 = .ok (.getfield 30, 3) := by decide +kernel
theorem dX6_gatherGains_53 : decode cX6_gatherGains 53 = .ok (.aload_n 0, 1) := by decide +kernel
theorem dX6_gatherGains_54 : decode cX6_gatherGains 54 = .ok (.getfield 19, 3) := by decide +kernel
theorem dX6_gatherGains_57 : decode cX6_gatherGains 57 = .ok (.iload 5, 2) := by decide +kernel
theorem dX6_gatherGains_59 : decode cX6_gatherGains 59 = .ok (.invokevirtual 149, 3) := by decide +kernel
theorem dX6_gatherGains_62 : decode cX6_gatherGains 62 = .ok (.istore 6, 2) := by decide +kernel
theorem dX6_gatherGains_64 : decode cX6_gatherGains 64 = .ok (.iload 5, 2) := by decide +kernel
theorem dX6_gatherGains_66 : decode cX6_gatherGains 66 = .ok (.iconst 2, 1) := by decide +kernel
theorem dX6_gatherGains_67 : decode cX6_gatherGains 67 = .ok (.if_icmp .ne 23, 3) := by decide +kernel
theorem dX6_gatherGains_70 : decode cX6_gatherGains 70 = .ok (.iload_n 3, 1) := by decide +kernel
theorem dX6_gatherGains_71 : decode cX6_gatherGains 71 = .ok (.aload_n 0, 1) := by decide +kernel
theorem dX6_gatherGains_72 : decode cX6_gatherGains 72 = .ok (.getfield 62, 3) := by decide +kernel
theorem dX6_gatherGains_75 : decode cX6_gatherGains 75 = .ok (.arraylength, 1) := by decide +kernel
theorem dX6_gatherGains_76 : decode cX6_gatherGains 76 = .ok (.if_icmp .ge 14, 3) := by decide +kernel
theorem dX6_gatherGains_79 : decode cX6_gatherGains 79 = .ok (.aload_n 0, 1) := by decide +kernel
theorem dX6_gatherGains_80 : decode cX6_gatherGains 80 = .ok (.getfield 62, 3) := by decide +kernel
theorem dX6_gatherGains_83 : decode cX6_gatherGains 83 = .ok (.iload_n 3, 1) := by decide +kernel
theorem dX6_gatherGains_84 : decode cX6_gatherGains 84 = .ok (.iload 6, 2) := by decide +kernel
theorem dX6_gatherGains_86 : decode cX6_gatherGains 86 = .ok (.iastore, 1) := by decide +kernel
theorem dX6_gatherGains_87 : decode cX6_gatherGains 87 = .ok (.iinc 3 1, 3) := by decide +kernel
theorem dX6_gatherGains_90 : decode cX6_gatherGains 90 = .ok (.iinc 4 1, 3) := by decide +kernel
theorem dX6_gatherGains_93 : decode cX6_gatherGains 93 = .ok (.goto (-77), 3) := by decide +kernel
theorem dX6_gatherGains_96 : decode cX6_gatherGains 96 = .ok (.iload_n 3, 1) := by decide +kernel
theorem dX6_gatherGains_97 : decode cX6_gatherGains 97 = .ok (.ireturn, 1) := by decide +kernel
theorem dX6_joyOf_0 : decode cX6_joyOf 0 = .ok (.iconst 0, 1) := by decide +kernel
theorem dX6_joyOf_1 : decode cX6_joyOf 1 = .ok (.istore_n 3, 1) := by decide +kernel
theorem dX6_joyOf_2 : decode cX6_joyOf 2 = .ok (.iconst 0, 1) := by decide +kernel
theorem dX6_joyOf_3 : decode cX6_joyOf 3 = .ok (.istore 4, 2) := by decide +kernel
theorem dX6_joyOf_5 : decode cX6_joyOf 5 = .ok (.iload 4, 2) := by decide +kernel
theorem dX6_joyOf_7 : decode cX6_joyOf 7 = .ok (.iload_n 1, 1) := by decide +kernel
theorem dX6_joyOf_8 : decode cX6_joyOf 8 = .ok (.if_icmp .ge 36, 3) := by decide +kernel
theorem dX6_joyOf_11 : decode cX6_joyOf 11 = .ok (.iload 4, 2) := by decide +kernel
theorem dX6_joyOf_13 : decode cX6_joyOf 13 = .ok (.aload_n 0, 1) := by decide +kernel
theorem dX6_joyOf_14 : decode cX6_joyOf 14 = .ok (.getfield 62, 3) := by decide +kernel
theorem dX6_joyOf_17 : decode cX6_joyOf 17 = .ok (.arraylength, 1) := by decide +kernel
theorem dX6_joyOf_18 : decode cX6_joyOf 18 = .ok (.if_icmp .ge 26, 3) := by decide +kernel
theorem dX6_joyOf_21 : decode cX6_joyOf 21 = .ok (.iload_n 3, 1) := by decide +kernel
theorem dX6_joyOf_22 : decode cX6_joyOf 22 = .ok (.iload_n 2, 1) := by decide +kernel
theorem dX6_joyOf_23 : decode cX6_joyOf 23 = .ok (.iload 4, 2) := by decide +kernel
theorem dX6_joyOf_25 : decode cX6_joyOf 25 = .ok (.ishr, 1) := by decide +kernel
theorem dX6_joyOf_26 : decode cX6_joyOf 26 = .ok (.iconst 1, 1) := by decide +kernel
theorem dX6_joyOf_27 : decode cX6_joyOf 27 = .ok (.iand, 1) := by decide +kernel
theorem dX6_joyOf_28 : decode cX6_joyOf 28 = .ok (.aload_n 0, 1) := by decide +kernel
theorem dX6_joyOf_29 : decode cX6_joyOf 29 = .ok (.getfield 62, 3) := by decide +kernel
theorem dX6_joyOf_32 : decode cX6_joyOf 32 = .ok (.iload 4, 2) := by decide +kernel
theorem dX6_joyOf_34 : decode cX6_joyOf 34 = .ok (.iaload, 1) := by decide +kernel
theorem dX6_joyOf_35 : decode cX6_joyOf 35 = .ok (.imul, 1) := by decide +kernel
theorem dX6_joyOf_36 : decode cX6_joyOf 36 = .ok (.iadd, 1) := by decide +kernel
theorem dX6_joyOf_37 : decode cX6_joyOf 37 = .ok (.istore_n 3, 1) := by decide +kernel
theorem dX6_joyOf_38 : decode cX6_joyOf 38 = .ok (.iinc 4 1, 3) := by decide +kernel
theorem dX6_joyOf_41 : decode cX6_joyOf 41 = .ok (.goto (-36), 3) := by decide +kernel
theorem dX6_joyOf_44 : decode cX6_joyOf 44 = .ok (.iload_n 3, 1) := by decide +kernel
theorem dX6_joyOf_45 : decode cX6_joyOf 45 = .ok (.ireturn, 1) := by decide +kernel
theorem dX6_weightOf_0 : decode cX6_weightOf 0 = .ok (.iload_n 1, 1) := by decide +kernel
theorem dX6_weightOf_1 : decode cX6_weightOf 1 = .ok (.invokestatic 160, 3) := by decide +kernel
theorem dX6_weightOf_4 : decode cX6_weightOf 4 = .ok (.istore_n 3, 1) := by decide +kernel
theorem dX6_weightOf_5 : decode cX6_weightOf 5 = .ok (.bipush 10, 2) := by decide +kernel
theorem dX6_weightOf_7 : decode cX6_weightOf 7 = .ok (.iload_n 2, 1) := by decide +kernel
theorem dX6_weightOf_8 : decode cX6_weightOf 8 = .ok (.isub, 1) := by decide +kernel
theorem dX6_weightOf_9 : decode cX6_weightOf 9 = .ok (.iload_n 3, 1) := by decide +kernel
theorem dX6_weightOf_10 : decode cX6_weightOf 10 = .ok (.invokestatic 207, 3) := by decide +kernel
theorem dX6_weightOf_13 : decode cX6_weightOf 13 = .ok (.iload_n 2, 1) := by decide +kernel
theorem dX6_weightOf_14 : decode cX6_weightOf 14 = .ok (.iload_n 0, 1) := by decide +kernel
theorem dX6_weightOf_15 : decode cX6_weightOf 15 = .ok (.iload_n 3, 1) := by decide +kernel
theorem dX6_weightOf_16 : decode cX6_weightOf 16 = .ok (.isub, 1) := by decide +kernel
theorem dX6_weightOf_17 : decode cX6_weightOf 17 = .ok (.invokestatic 207, 3) := by decide +kernel
theorem dX6_weightOf_20 : decode cX6_weightOf 20 = .ok (.imul, 1) := by decide +kernel
theorem dX6_weightOf_21 : decode cX6_weightOf 21 = .ok (.ireturn, 1) := by decide +kernel
theorem dX6_playRound_0 : decode cX6_playRound 0 = .ok (.iload_n 1, 1) := by decide +kernel
theorem dX6_playRound_1 : decode cX6_playRound 1 = .ok (.iconst 3, 1) := by decide +kernel
theorem dX6_playRound_2 : decode cX6_playRound 2 = .ok (.if_icmp .ge 38, 3) := by decide +kernel
theorem dX6_playRound_5 : decode cX6_playRound 5 = .ok (.aload_n 0, 1) := by decide +kernel
theorem dX6_playRound_6 : decode cX6_playRound 6 = .ok (.getfield 30, 3) := by decide +kernel
theorem dX6_playRound_9 : decode cX6_playRound 9 = .ok (.aload_n 0, 1) := by decide +kernel
theorem dX6_playRound_10 : decode cX6_playRound 10 = .ok (.getfield 19, 3) := by decide +kernel
theorem dX6_playRound_13 : decode cX6_playRound 13 = .ok (.aload_n 0, 1) := by decide +kernel
theorem dX6_playRound_14 : decode cX6_playRound 14 = .ok (.getfield 30, 3) := by decide +kernel
theorem dX6_playRound_17 : decode cX6_playRound 17 = .ok (.aload_n 0, 1) := by decide +kernel
theorem dX6_playRound_18 : decode cX6_playRound 18 = .ok (.getfield 19, 3) := by decide +kernel
theorem dX6_playRound_21 : decode cX6_playRound 21 = .ok (.iload_n 1, 1) := by decide +kernel
theorem dX6_playRound_22 : decode cX6_playRound 22 = .ok (.invokevirtual 135, 3) := by decide +kernel
theorem dX6_playRound_25 : decode cX6_playRound 25 = .ok (.ifCond .eq 7, 3) := by decide +kernel
theorem dX6_playRound_28 : decode cX6_playRound 28 = .ok (.iload_n 1, 1) := by decide +kernel
theorem dX6_playRound_29 : decode cX6_playRound 29 = .ok (.goto 4, 3) := by decide +kernel
theorem dX6_playRound_32 : decode cX6_playRound 32 = .ok (.iconst 3, 1) := by decide +kernel
theorem dX6_playRound_33 : decode cX6_playRound 33 = .ok (.invokevirtual 149, 3) := by decide +kernel
theorem dX6_playRound_36 : decode cX6_playRound 36 = .ok (.pop, 1) := by decide +kernel
theorem dX6_playRound_37 : decode cX6_playRound 37 = .ok (.goto 33, 3) := by decide +kernel
theorem dX6_playRound_40 : decode cX6_playRound 40 = .ok (.aload_n 0, 1) := by decide +kernel
theorem dX6_playRound_41 : decode cX6_playRound 41 = .ok (.getfield 19, 3) := by decide +kernel
theorem dX6_playRound_44 : decode cX6_playRound 44 = .ok (.iload_n 1, 1) := by decide +kernel
theorem dX6_playRound_45 : decode cX6_playRound 45 = .ok (.iconst 3, 1) := by decide +kernel
theorem dX6_playRound_46 : decode cX6_playRound 46 = .ok (.isub, 1) := by decide +kernel
theorem dX6_playRound_47 : decode cX6_playRound 47 = .ok (.invokevirtual 116, 3) := by decide +kernel
theorem dX6_playRound_50 : decode cX6_playRound 50 = .ok (.ifCond .eq 20, 3) := by decide +kernel
theorem dX6_playRound_53 : decode cX6_playRound 53 = .ok (.aload_n 0, 1) := by decide +kernel
theorem dX6_playRound_54 : decode cX6_playRound 54 = .ok (.getfield 30, 3) := by decide +kernel
theorem dX6_playRound_57 : decode cX6_playRound 57 = .ok (.dup, 1) := by decide +kernel
theorem dX6_playRound_58 : decode cX6_playRound 58 = .ok (.getfield 109, 3) := by decide +kernel
theorem dX6_playRound_61 : decode cX6_playRound 61 = .ok (.iconst 1, 1) := by decide +kernel
theorem dX6_playRound_62 : decode cX6_playRound 62 = .ok (.iload_n 1, 1) := by decide +kernel
theorem dX6_playRound_63 : decode cX6_playRound 63 = .ok (.iconst 3, 1) := by decide +kernel
theorem dX6_playRound_64 : decode cX6_playRound 64 = .ok (.isub, 1) := by decide +kernel
theorem dX6_playRound_65 : decode cX6_playRound 65 = .ok (.ishl, 1) := by decide +kernel
theorem dX6_playRound_66 : decode cX6_playRound 66 = .ok (.ixor, 1) := by decide +kernel
theorem dX6_playRound_67 : decode cX6_playRound 67 = .ok (.putfield 109, 3) := by decide +kernel
theorem dX6_playRound_70 : decode cX6_playRound 70 = .ok (.return_, 1) := by decide +kernel
theorem dX6_keep_0 : decode cX6_keep 0 = .ok (.iload_n 1, 1) := by decide +kernel
theorem dX6_keep_1 : decode cX6_keep 1 = .ok (.ifCond .lt 12, 3) := by decide +kernel
theorem dX6_keep_4 : decode cX6_keep 4 = .ok (.iload_n 1, 1) := by decide +kernel
theorem dX6_keep_5 : decode cX6_keep 5 = .ok (.aload_n 0, 1) := by decide +kernel
theorem dX6_keep_6 : decode cX6_keep 6 = .ok (.getfield 58, 3) := by decide +kernel
theorem dX6_keep_9 : decode cX6_keep 9 = .ok (.arraylength, 1) := by decide +kernel
theorem dX6_keep_10 : decode cX6_keep 10 = .ok (.if_icmp .lt 5, 3) := by decide +kernel
theorem dX6_keep_13 : decode cX6_keep 13 = .ok (.iconst (-1), 1) := by decide +kernel
theorem dX6_keep_14 : decode cX6_keep 14 = .ok (.ireturn, 1) := by decide +kernel
theorem dX6_keep_15 : decode cX6_keep 15 = .ok (.aload_n 0, 1) := by decide +kernel
theorem dX6_keep_16 : decode cX6_keep 16 = .ok (.getfield 58, 3) := by decide +kernel
theorem dX6_keep_19 : decode cX6_keep 19 = .ok (.iload_n 1, 1) := by decide +kernel
theorem dX6_keep_20 : decode cX6_keep 20 = .ok (.aaload, 1) := by decide +kernel
theorem dX6_keep_21 : decode cX6_keep 21 = .ok (.aload_n 0, 1) := by decide +kernel
theorem dX6_keep_22 : decode cX6_keep 22 = .ok (.getfield 26, 3) := by decide +kernel
theorem dX6_keep_25 : decode cX6_keep 25 = .ok (.invokevirtual 172, 3) := by decide +kernel
theorem dX6_keep_28 : decode cX6_keep 28 = .ok (.aload_n 0, 1) := by decide +kernel
theorem dX6_keep_29 : decode cX6_keep 29 = .ok (.dup, 1) := by decide +kernel
theorem dX6_keep_30 : decode cX6_keep 30 = .ok (.getfield 66, 3) := by decide +kernel
theorem dX6_keep_33 : decode cX6_keep 33 = .ok (.iconst 1, 1) := by decide +kernel
theorem dX6_keep_34 : decode cX6_keep 34 = .ok (.iload_n 1, 1) := by decide +kernel
theorem dX6_keep_35 : decode cX6_keep 35 = .ok (.ishl, 1) := by decide +kernel
theorem dX6_keep_36 : decode cX6_keep 36 = .ok (.ior, 1) := by decide +kernel
theorem dX6_keep_37 : decode cX6_keep 37 = .ok (.putfield 66, 3) := by decide +kernel
theorem dX6_keep_40 : decode cX6_keep 40 = .ok (.aload_n 0, 1) := by decide +kernel
theorem dX6_keep_41 : decode cX6_keep 41 = .ok (.getfield 26, 3) := by decide +kernel
theorem dX6_keep_44 : decode cX6_keep 44 = .ok (.getfield 103, 3) := by decide +kernel
theorem dX6_keep_47 : decode cX6_keep 47 = .ok (.ireturn, 1) := by decide +kernel
theorem dX6_again_0 : decode cX6_again 0 = .ok (.iload_n 1, 1) := by decide +kernel
theorem dX6_again_1 : decode cX6_again 1 = .ok (.ifCond .lt 12, 3) := by decide +kernel
theorem dX6_again_4 : decode cX6_again 4 = .ok (.iload_n 1, 1) := by decide +kernel
theorem dX6_again_5 : decode cX6_again 5 = .ok (.aload_n 0, 1) := by decide +kernel
theorem dX6_again_6 : decode cX6_again 6 = .ok (.getfield 58, 3) := by decide +kernel
theorem dX6_again_9 : decode cX6_again 9 = .ok (.arraylength, 1) := by decide +kernel
theorem dX6_again_10 : decode cX6_again 10 = .ok (.if_icmp .lt 5, 3) := by decide +kernel
theorem dX6_again_13 : decode cX6_again 13 = .ok (.iconst (-1), 1) := by decide +kernel
theorem dX6_again_14 : decode cX6_again 14 = .ok (.ireturn, 1) := by decide +kernel
theorem dX6_again_15 : decode cX6_again 15 = .ok (.aload_n 0, 1) := by decide +kernel
theorem dX6_again_16 : decode cX6_again 16 = .ok (.getfield 66, 3) := by decide +kernel
theorem dX6_again_19 : decode cX6_again 19 = .ok (.iload_n 1, 1) := by decide +kernel
theorem dX6_again_20 : decode cX6_again 20 = .ok (.ishr, 1) := by decide +kernel
theorem dX6_again_21 : decode cX6_again 21 = .ok (.iconst 1, 1) := by decide +kernel
theorem dX6_again_22 : decode cX6_again 22 = .ok (.iand, 1) := by decide +kernel
theorem dX6_again_23 : decode cX6_again 23 = .ok (.ifCond .ne 6, 3) := by decide +kernel
theorem dX6_again_26 : decode cX6_again 26 = .ok (.bipush (-3), 2) := by decide +kernel
theorem dX6_again_28 : decode cX6_again 28 = .ok (.ireturn, 1) := by decide +kernel
theorem dX6_again_29 : decode cX6_again 29 = .ok (.aload_n 0, 1) := by decide +kernel
theorem dX6_again_30 : decode cX6_again 30 = .ok (.getfield 26, 3) := by decide +kernel
theorem dX6_again_33 : decode cX6_again 33 = .ok (.aload_n 0, 1) := by decide +kernel
theorem dX6_again_34 : decode cX6_again 34 = .ok (.getfield 58, 3) := by decide +kernel
theorem dX6_again_37 : decode cX6_again 37 = .ok (.iload_n 1, 1) := by decide +kernel
theorem dX6_again_38 : decode cX6_again 38 = .ok (.aaload, 1) := by decide +kernel
theorem dX6_again_39 : decode cX6_again 39 = .ok (.invokevirtual 172, 3) := by decide +kernel
theorem dX6_again_42 : decode cX6_again 42 = .ok (.aload_n 0, 1) := by decide +kernel
theorem dX6_again_43 : decode cX6_again 43 = .ok (.getfield 36, 3) := by decide +kernel
theorem dX6_again_46 : decode cX6_again 46 = .ok (.iconst 0, 1) := by decide +kernel
theorem dX6_again_47 : decode cX6_again 47 = .ok (.putfield 93, 3) := by decide +kernel
theorem dX6_again_50 : decode cX6_again 50 = .ok (.aload_n 0, 1) := by decide +kernel
theorem dX6_again_51 : decode cX6_again 51 = .ok (.getfield 26, 3) := by decide +kernel
theorem dX6_again_54 : decode cX6_again 54 = .ok (.getfield 103, 3) := by decide +kernel
theorem dX6_again_57 : decode cX6_again 57 = .ok (.ireturn, 1) := by decide +kernel
theorem dX6_isRow_0 : decode cX6_isRow 0 = .ok (.iload_n 1, 1) := by decide +kernel
theorem dX6_isRow_1 : decode cX6_isRow 1 = .ok (.ifCond .lt 13, 3) := by decide +kernel
theorem dX6_isRow_4 : decode cX6_isRow 4 = .ok (.iload_n 1, 1) := by decide +kernel
theorem dX6_isRow_5 : decode cX6_isRow 5 = .ok (.bipush 10, 2) := by decide +kernel
theorem dX6_isRow_7 : decode cX6_isRow 7 = .ok (.iload_n 0, 1) := by decide +kernel
theorem dX6_isRow_8 : decode cX6_isRow 8 = .ok (.invokestatic 207, 3) := by decide +kernel
theorem dX6_isRow_11 : decode cX6_isRow 11 = .ok (.if_icmp .lt 5, 3) := by decide +kernel
theorem dX6_isRow_14 : decode cX6_isRow 14 = .ok (.iconst 0, 1) := by decide +kernel
theorem dX6_isRow_15 : decode cX6_isRow 15 = .ok (.ireturn, 1) := by decide +kernel
theorem dX6_isRow_16 : decode cX6_isRow 16 = .ok (.iconst 0, 1) := by decide +kernel
theorem dX6_isRow_17 : decode cX6_isRow 17 = .ok (.istore_n 2, 1) := by decide +kernel
theorem dX6_isRow_18 : decode cX6_isRow 18 = .ok (.iload_n 2, 1) := by decide +kernel
theorem dX6_isRow_19 : decode cX6_isRow 19 = .ok (.iload_n 0, 1) := by decide +kernel
theorem dX6_isRow_20 : decode cX6_isRow 20 = .ok (.if_icmp .ge 21, 3) := by decide +kernel
theorem dX6_isRow_23 : decode cX6_isRow 23 = .ok (.iload_n 0, 1) := by decide +kernel
theorem dX6_isRow_24 : decode cX6_isRow 24 = .ok (.iload_n 1, 1) := by decide +kernel
theorem dX6_isRow_25 : decode cX6_isRow 25 = .ok (.iload_n 2, 1) := by decide +kernel
theorem dX6_isRow_26 : decode cX6_isRow 26 = .ok (.invokestatic 175, 3) := by decide +kernel
theorem dX6_isRow_29 : decode cX6_isRow 29 = .ok (.iconst 3, 1) := by decide +kernel
theorem dX6_isRow_30 : decode cX6_isRow 30 = .ok (.if_icmp .le 5, 3) := by decide +kernel
theorem dX6_isRow_33 : decode cX6_isRow 33 = .ok (.iconst 0, 1) := by decide +kernel
theorem dX6_isRow_34 : decode cX6_isRow 34 = .ok (.ireturn, 1) := by decide +kernel
theorem dX6_isRow_35 : decode cX6_isRow 35 = .ok (.iinc 2 1, 3) := by decide +kernel
theorem dX6_isRow_38 : decode cX6_isRow 38 = .ok (.goto (-20), 3) := by decide +kernel
theorem dX6_isRow_41 : decode cX6_isRow 41 = .ok (.iconst 1, 1) := by decide +kernel
theorem dX6_isRow_42 : decode cX6_isRow 42 = .ok (.ireturn, 1) := by decide +kernel
theorem dX6_figure_0 : decode cX6_figure 0 = .ok (.iload_n 1, 1) := by decide +kernel
theorem dX6_figure_1 : decode cX6_figure 1 = .ok (.istore_n 3, 1) := by decide +kernel
theorem dX6_figure_2 : decode cX6_figure 2 = .ok (.iload_n 2, 1) := by decide +kernel
theorem dX6_figure_3 : decode cX6_figure 3 = .ok (.iconst 1, 1) := by decide +kernel
theorem dX6_figure_4 : decode cX6_figure 4 = .ok (.iadd, 1) := by decide +kernel
theorem dX6_figure_5 : decode cX6_figure 5 = .ok (.istore 4, 2) := by decide +kernel
theorem dX6_figure_7 : decode cX6_figure 7 = .ok (.iload 4, 2) := by decide +kernel
theorem dX6_figure_9 : decode cX6_figure 9 = .ok (.iload_n 0, 1) := by decide +kernel
theorem dX6_figure_10 : decode cX6_figure 10 = .ok (.if_icmp .ge 14, 3) := by decide +kernel
theorem dX6_figure_13 : decode cX6_figure 13 = .ok (.iload_n 3, 1) := by decide +kernel
theorem dX6_figure_14 : decode cX6_figure 14 = .ok (.bipush 10, 2) := by decide +kernel
theorem dX6_figure_16 : decode cX6_figure 16 = .ok (.idiv, 1) := by decide +kernel
theorem dX6_figure_17 : decode cX6_figure 17 = .ok (.istore_n 3, 1) := by decide +kernel
theorem dX6_figure_18 : decode cX6_figure 18 = .ok (.iinc 4 1, 3) := by decide +kernel
theorem dX6_figure_21 : decode cX6_figure 21 = .ok (.goto (-14), 3) := by decide +kernel
theorem dX6_figure_24 : decode cX6_figure 24 = .ok (.iload_n 3, 1) := by decide +kernel
theorem dX6_figure_25 : decode cX6_figure 25 = .ok (.bipush 10, 2) := by decide +kernel
theorem dX6_figure_27 : decode cX6_figure 27 = .ok (.irem, 1) := by decide +kernel
theorem dX6_figure_28 : decode cX6_figure 28 = .ok (.ireturn, 1) := by decide +kernel
theorem dX6_power_0 : decode cX6_power 0 = .ok (.iconst 1, 1) := by decide +kernel
theorem dX6_power_1 : decode cX6_power 1 = .ok (.istore_n 2, 1) := by decide +kernel
theorem dX6_power_2 : decode cX6_power 2 = .ok (.iconst 0, 1) := by decide +kernel
theorem dX6_power_3 : decode cX6_power 3 = .ok (.istore_n 3, 1) := by decide +kernel
theorem dX6_power_4 : decode cX6_power 4 = .ok (.iload_n 3, 1) := by decide +kernel
theorem dX6_power_5 : decode cX6_power 5 = .ok (.iload_n 1, 1) := by decide +kernel
theorem dX6_power_6 : decode cX6_power 6 = .ok (.if_icmp .ge 13, 3) := by decide +kernel
theorem dX6_power_9 : decode cX6_power 9 = .ok (.iload_n 2, 1) := by decide +kernel
theorem dX6_power_10 : decode cX6_power 10 = .ok (.iload_n 0, 1) := by decide +kernel
theorem dX6_power_11 : decode cX6_power 11 = .ok (.imul, 1) := by decide +kernel
theorem dX6_power_12 : decode cX6_power 12 = .ok (.istore_n 2, 1) := by decide +kernel
theorem dX6_power_13 : decode cX6_power 13 = .ok (.iinc 3 1, 3) := by decide +kernel
theorem dX6_power_16 : decode cX6_power 16 = .ok (.goto (-12), 3) := by decide +kernel
theorem dX6_power_19 : decode cX6_power 19 = .ok (.iload_n 2, 1) := by decide +kernel
theorem dX6_power_20 : decode cX6_power 20 = .ok (.ireturn, 1) := by decide +kernel
theorem dX6_factorial_0 : decode cX6_factorial 0 = .ok (.iconst 1, 1) := by decide +kernel
theorem dX6_factorial_1 : decode cX6_factorial 1 = .ok (.istore_n 1, 1) := by decide +kernel
theorem dX6_factorial_2 : decode cX6_factorial 2 = .ok (.iconst 2, 1) := by decide +kernel
theorem dX6_factorial_3 : decode cX6_factorial 3 = .ok (.istore_n 2, 1) := by decide +kernel
theorem dX6_factorial_4 : decode cX6_factorial 4 = .ok (.iload_n 2, 1) := by decide +kernel
theorem dX6_factorial_5 : decode cX6_factorial 5 = .ok (.iload_n 0, 1) := by decide +kernel
theorem dX6_factorial_6 : decode cX6_factorial 6 = .ok (.if_icmp .gt 13, 3) := by decide +kernel
theorem dX6_factorial_9 : decode cX6_factorial 9 = .ok (.iload_n 1, 1) := by decide +kernel
theorem dX6_factorial_10 : decode cX6_factorial 10 = .ok (.iload_n 2, 1) := by decide +kernel
theorem dX6_factorial_11 : decode cX6_factorial 11 = .ok (.imul, 1) := by decide +kernel
theorem dX6_factorial_12 : decode cX6_factorial 12 = .ok (.istore_n 1, 1) := by decide +kernel
theorem dX6_factorial_13 : decode cX6_factorial 13 = .ok (.iinc 2 1, 3) := by decide +kernel
theorem dX6_factorial_16 : decode cX6_factorial 16 = .ok (.goto (-12), 3) := by decide +kernel
theorem dX6_factorial_19 : decode cX6_factorial 19 = .ok (.iload_n 1, 1) := by decide +kernel
theorem dX6_factorial_20 : decode cX6_factorial 20 = .ok (.ireturn, 1) := by decide +kernel
theorem dX6_partOf_0 : decode cX6_partOf 0 = .ok (.iload_n 0, 1) := by decide +kernel
theorem dX6_partOf_1 : decode cX6_partOf 1 = .ok (.iload_n 1, 1) := by decide +kernel
theorem dX6_partOf_2 : decode cX6_partOf 2 = .ok (.invokestatic 222, 3) := by decide +kernel
theorem dX6_partOf_5 : decode cX6_partOf 5 = .ok (.istore_n 3, 1) := by decide +kernel
theorem dX6_partOf_6 : decode cX6_partOf 6 = .ok (.iload_n 3, 1) := by decide +kernel
theorem dX6_partOf_7 : decode cX6_partOf 7 = .ok (.ifCond .ne 5, 3) := by decide +kernel
theorem dX6_partOf_10 : decode cX6_partOf 10 = .ok (.iconst 0, 1) := by decide +kernel
theorem dX6_partOf_11 : decode cX6_partOf 11 = .ok (.ireturn, 1) := by decide +kernel
theorem dX6_partOf_12 : decode cX6_partOf 12 = .ok (.iload_n 2, 1) := by decide +kernel
theorem dX6_partOf_13 : decode cX6_partOf 13 = .ok (.ifCond .eq 9, 3) := by decide +kernel
theorem dX6_partOf_16 : decode cX6_partOf 16 = .ok (.iload_n 0, 1) := by decide +kernel
theorem dX6_partOf_17 : decode cX6_partOf 17 = .ok (.iload_n 3, 1) := by decide +kernel
theorem dX6_partOf_18 : decode cX6_partOf 18 = .ok (.idiv, 1) := by decide +kernel
theorem dX6_partOf_19 : decode cX6_partOf 19 = .ok (.goto 6, 3) := by decide +kernel
theorem dX6_partOf_22 : decode cX6_partOf 22 = .ok (.iload_n 1, 1) := by decide +kernel
theorem dX6_partOf_23 : decode cX6_partOf 23 = .ok (.iload_n 3, 1) := by decide +kernel
theorem dX6_partOf_24 : decode cX6_partOf 24 = .ok (.idiv, 1) := by decide +kernel
theorem dX6_partOf_25 : decode cX6_partOf 25 = .ok (.ireturn, 1) := by decide +kernel
theorem dX6_commonDivisor_0 : decode cX6_commonDivisor 0 = .ok (.iload_n 0, 1) := by decide +kernel
theorem dX6_commonDivisor_1 : decode cX6_commonDivisor 1 = .ok (.istore_n 2, 1) := by decide +kernel
theorem dX6_commonDivisor_2 : decode cX6_commonDivisor 2 = .ok (.iload_n 1, 1) := by decide +kernel
theorem dX6_commonDivisor_3 : decode cX6_commonDivisor 3 = .ok (.istore_n 3, 1) := by decide +kernel
theorem dX6_commonDivisor_4 : decode cX6_commonDivisor 4 = .ok (.iconst 0, 1) := by decide +kernel
theorem dX6_commonDivisor_5 : decode cX6_commonDivisor 5 = .ok (.istore 4, 2) := by decide +kernel
theorem dX6_commonDivisor_7 : decode cX6_commonDivisor 7 = .ok (.iload 4, 2) := by decide +kernel
theorem dX6_commonDivisor_9 : decode cX6_commonDivisor 9 = .ok (.bipush 64, 2) := by decide +kernel
theorem dX6_commonDivisor_11 : decode cX6_commonDivisor 11 = .ok (.if_icmp .ge 23, 3) := by decide +kernel
theorem dX6_commonDivisor_14 : decode cX6_commonDivisor 14 = .ok (.iload_n 3, 1) := by decide +kernel
theorem dX6_commonDivisor_15 : decode cX6_commonDivisor 15 = .ok (.ifCond .eq 19, 3) := by decide +kernel
theorem dX6_commonDivisor_18 : decode cX6_commonDivisor 18 = .ok (.iload_n 2, 1) := by decide +kernel
theorem dX6_commonDivisor_19 : decode cX6_commonDivisor 19 = .ok (.iload_n 3, 1) := by decide +kernel
theorem dX6_commonDivisor_20 : decode cX6_commonDivisor 20 = .ok (.irem, 1) := by decide +kernel
theorem dX6_commonDivisor_21 : decode cX6_commonDivisor 21 = .ok (.istore 5, 2) := by decide +kernel
theorem dX6_commonDivisor_23 : decode cX6_commonDivisor 23 = .ok (.iload_n 3, 1) := by decide +kernel
theorem dX6_commonDivisor_24 : decode cX6_commonDivisor 24 = .ok (.istore_n 2, 1) := by decide +kernel
theorem dX6_commonDivisor_25 : decode cX6_commonDivisor 25 = .ok (.iload 5, 2) := by decide +kernel
theorem dX6_commonDivisor_27 : decode cX6_commonDivisor 27 = .ok (.istore_n 3, 1) := by decide +kernel
theorem dX6_commonDivisor_28 : decode cX6_commonDivisor 28 = .ok (.iinc 4 1, 3) := by decide +kernel
theorem dX6_commonDivisor_31 : decode cX6_commonDivisor 31 = .ok (.goto (-24), 3) := by decide +kernel
theorem dX6_commonDivisor_34 : decode cX6_commonDivisor 34 = .ok (.iload_n 2, 1) := by decide +kernel
theorem dX6_commonDivisor_35 : decode cX6_commonDivisor 35 = .ok (.ireturn, 1) := by decide +kernel
theorem dX6_newStands_0 : decode cX6_newStands 0 = .ok (.iload_n 0, 1) := by decide +kernel
theorem dX6_newStands_1 : decode cX6_newStands 1 = .ok (.iconst 0, 1) := by decide +kernel
theorem dX6_newStands_2 : decode cX6_newStands 2 = .ok (.invokestatic 225, 3) := by decide +kernel
theorem dX6_newStands_5 : decode cX6_newStands 5 = .ok (.anewarray 23, 3) := by decide +kernel
theorem dX6_newStands_8 : decode cX6_newStands 8 = .ok (.astore_n 1, 1) := by decide +kernel
theorem dX6_newStands_9 : decode cX6_newStands 9 = .ok (.iconst 0, 1) := by decide +kernel
theorem dX6_newStands_10 : decode cX6_newStands 10 = .ok (.istore_n 2, 1) := by decide +kernel
theorem dX6_newStands_11 : decode cX6_newStands 11 = .ok (.iload_n 2, 1) := by decide +kernel
theorem dX6_newStands_12 : decode cX6_newStands 12 = .ok (.aload_n 1, 1) := by decide +kernel
theorem dX6_newStands_13 : decode cX6_newStands 13 = .ok (.arraylength, 1) := by decide +kernel
theorem dX6_newStands_14 : decode cX6_newStands 14 = .ok (.if_icmp .ge 19, 3) := by decide +kernel
theorem dX6_newStands_17 : decode cX6_newStands 17 = .ok (.aload_n 1, 1) := by decide +kernel
theorem dX6_newStands_18 : decode cX6_newStands 18 = .ok (.iload_n 2, 1) := by decide +kernel
theorem dX6_newStands_19 : decode cX6_newStands 19 = .ok (.new 23, 3) := by decide +kernel
theorem dX6_newStands_22 : decode cX6_newStands 22 = .ok (.dup, 1) := by decide +kernel
theorem dX6_newStands_23 : decode cX6_newStands 23 = .ok (.invokespecial 25, 3) := by decide +kernel
theorem dX6_newStands_26 : decode cX6_newStands 26 = .ok (.aastore, 1) := by decide +kernel
theorem dX6_newStands_27 : decode cX6_newStands 27 = .ok (.iinc 2 1, 3) := by decide +kernel
theorem dX6_newStands_30 : decode cX6_newStands 30 = .ok (.goto (-19), 3) := by decide +kernel
theorem dX6_newStands_33 : decode cX6_newStands 33 = .ok (.aload_n 1, 1) := by decide +kernel
theorem dX6_newStands_34 : decode cX6_newStands 34 = .ok (.areturn, 1) := by decide +kernel
end
section
/-! decode rows -/
theorem dX7_init_0 : decode cX7_init 0 = .ok (.aload_n 0, 1) := by decide +kernel
theorem dX7_init_1 : decode cX7_init 1 = .ok (.invokespecial 1, 3) := by decide +kernel
theorem dX7_init_4 : decode cX7_init 4 = .ok (.aload_n 0, 1) := by decide +kernel
theorem dX7_init_5 : decode cX7_init 5 = .ok (.bipush 48, 2) := by decide +kernel
theorem dX7_init_7 : decode cX7_init 7 = .ok (.newarray .int, 2) := by decide +kernel
theorem dX7_init_9 : decode cX7_init 9 = .ok (.putfield 7, 3) := by decide +kernel
theorem dX7_init_12 : decode cX7_init 12 = .ok (.aload_n 0, 1) := by decide +kernel
theorem dX7_init_13 : decode cX7_init 13 = .ok (.bipush 6, 2) := by decide +kernel
theorem dX7_init_15 : decode cX7_init 15 = .ok (.newarray .int, 2) := by decide +kernel
theorem dX7_init_17 : decode cX7_init 17 = .ok (.putfield 13, 3) := by decide +kernel
theorem dX7_init_20 : decode cX7_init 20 = .ok (.aload_n 0, 1) := by decide +kernel
theorem dX7_init_21 : decode cX7_init 21 = .ok (.bipush 18, 2) := by decide +kernel
theorem dX7_init_23 : decode cX7_init 23 = .ok (.newarray .int, 2) := by decide +kernel
theorem dX7_init_25 : decode cX7_init 25 = .ok (.putfield 16, 3) := by decide +kernel
theorem dX7_init_28 : decode cX7_init 28 = .ok (.aload_n 0, 1) := by decide +kernel
theorem dX7_init_29 : decode cX7_init 29 = .ok (.bipush 24, 2) := by decide +kernel
theorem dX7_init_31 : decode cX7_init 31 = .ok (.newarray .int, 2) := by decide +kernel
theorem dX7_init_33 : decode cX7_init 33 = .ok (.putfield 19, 3) := by decide +kernel
theorem dX7_init_36 : decode cX7_init 36 = .ok (.aload_n 0, 1) := by decide +kernel
theorem dX7_init_37 : decode cX7_init 37 = .ok (.bipush 12, 2) := by decide +kernel
theorem dX7_init_39 : decode cX7_init 39 = .ok (.newarray .int, 2) := by decide +kernel
theorem dX7_init_41 : decode cX7_init 41 = .ok (.putfield 22, 3) := by decide +kernel
theorem dX7_init_44 : decode cX7_init 44 = .ok (.aload_n 0, 1) := by decide +kernel
theorem dX7_init_45 : decode cX7_init 45 = .ok (.bipush 12, 2) := by decide +kernel
theorem dX7_init_47 : decode cX7_init 47 = .ok (.newarray .int, 2) := by decide +kernel
theorem dX7_init_49 : decode cX7_init 49 = .ok (.putfield 25, 3) := by decide +kernel
theorem dX7_init_52 : decode cX7_init 52 = .ok (.aload_n 0, 1) := by decide +kernel
theorem dX7_init_53 : decode cX7_init 53 = .ok (.bipush 12, 2) := by decide +kernel
theorem dX7_init_55 : decode cX7_init 55 = .ok (.newarray .int, 2) := by decide +kernel
theorem dX7_init_57 : decode cX7_init 57 = .ok (.putfield 28, 3) := by decide +kernel
theorem dX7_init_60 : decode cX7_init 60 = .ok (.aload_n 0, 1) := by decide +kernel
theorem dX7_init_61 : decode cX7_init 61 = .ok (.sipush 168, 3) := by decide +kernel
theorem dX7_init_64 : decode cX7_init 64 = .ok (.newarray .int, 2) := by decide +kernel
theorem dX7_init_66 : decode cX7_init 66 = .ok (.putfield 31, 3) := by decide +kernel
theorem dX7_init_69 : decode cX7_init 69 = .ok (.aload_n 0, 1) := by decide +kernel
theorem dX7_init_70 : decode cX7_init 70 = .ok (.bipush 24, 2) := by decide +kernel
theorem dX7_init_72 : decode cX7_init 72 = .ok (.newarray .int, 2) := by decide +kernel
theorem dX7_init_74 : decode cX7_init 74 = .ok (.putfield 34, 3) := by decide +kernel
theorem dX7_init_77 : decode cX7_init 77 = .ok (.aload_n 0, 1) := by decide +kernel
theorem dX7_init_78 : decode cX7_init 78 = .ok (.iconst 2, 1) := by decide +kernel
theorem dX7_init_79 : decode cX7_init 79 = .ok (.newarray .boolean, 2) := by decide +kernel
theorem dX7_init_81 : decode cX7_init 81 = .ok (.putfield 37, 3) := by decide +kernel
theorem dX7_init_84 : decode cX7_init 84 = .ok (.aload_n 0, 1) := by decide +kernel
theorem dX7_init_85 : decode cX7_init 85 = .ok (.bipush 6, 2) := by decide +kernel
theorem dX7_init_87 : decode cX7_init 87 = .ok (.newarray .int, 2) := by decide +kernel
theorem dX7_init_89 : decode cX7_init 89 = .ok (.putfield 41, 3) := by decide +kernel
theorem dX7_init_92 : decode cX7_init 92 = .ok (.aload_n 0, 1) := by decide +kernel
theorem dX7_init_93 : decode cX7_init 93 = .ok (.bipush 6, 2) := by decide +kernel
theorem dX7_init_95 : decode cX7_init 95 = .ok (.newarray .int, 2) := by decide +kernel
theorem dX7_init_97 : decode cX7_init 97 = .ok (.putfield 44, 3) := by decide +kernel
theorem dX7_init_100 : decode cX7_init 100 = .ok (.aload_n 0, 1) := by decide +kernel
theorem dX7_init_101 : decode cX7_init 101 = .ok (.bipush 6, 2) := by decide +kernel
theorem dX7_init_103 : decode cX7_init 103 = .ok (.newarray .int, 2) := by decide +kernel
theorem dX7_init_105 : decode cX7_init 105 = .ok (.putfield 47, 3) := by decide +kernel
theorem dX7_init_108 : decode cX7_init 108 = .ok (.aload_n 0, 1) := by decide +kernel
theorem dX7_init_109 : decode cX7_init 109 = .ok (.bipush 6, 2) := by decide +kernel
theorem dX7_init_111 : decode cX7_init 111 = .ok (.newarray .int, 2) := by decide +kernel
theorem dX7_init_113 : decode cX7_init 113 = .ok (.putfield 50, 3) := by decide +kernel
theorem dX7_init_116 : decode cX7_init 116 = .ok (.aload_n 0, 1) := by decide +kernel
theorem dX7_init_117 : decode cX7_init 117 = .ok (.bipush 64, 2) := by decide +kernel
theorem dX7_init_119 : decode cX7_init 119 = .ok (.newarray .int, 2) := by decide +kernel
theorem dX7_init_121 : decode cX7_init 121 = .ok (.putfield 53, 3) := by decide +kernel
theorem dX7_init_124 : decode cX7_init 124 = .ok (.aload_n 0, 1) := by decide +kernel
theorem dX7_init_125 : decode cX7_init 125 = .ok (.bipush 6, 2) := by decide +kernel
theorem dX7_init_127 : decode cX7_init 127 = .ok (.newarray .int, 2) := by decide +kernel
theorem dX7_init_129 : decode cX7_init 129 = .ok (.putfield 56, 3) := by decide +kernel
theorem dX7_init_132 : decode cX7_init 132 = .ok (.return_, 1) := by decide +kernel
theorem dX7_in_0 : decode cX7_in 0 = .ok (.lload_n 0, 1) := by decide +kernel
theorem dX7_in_1 : decode cX7_in 1 = .ok (.lload_n 2, 1) := by decide +kernel
theorem dX7_in_2 : decode cX7_in 2 = .ok (.lcmp, 1) := by decide +kernel
theorem dX7_in_3 : decode cX7_in 3 = .ok (.ifCond .lt 14, 3) := by decide +kernel
theorem dX7_in_6 : decode cX7_in 6 = .ok (.lload_n 0, 1) := by decide +kernel
theorem dX7_in_7 : decode cX7_in 7 = .ok (.lload 4, 2) := by decide +kernel
theorem dX7_in_9 : decode cX7_in 9 = .ok (.lcmp, 1) := by decide +kernel
theorem dX7_in_10 : decode cX7_in 10 = .ok (.ifCond .gt 7, 3) := by decide +kernel
theorem dX7_in_13 : decode cX7_in 13 = .ok (.iconst 1, 1) := by decide +kernel
theorem dX7_in_14 : decode cX7_in 14 = .ok (.goto 4, 3) := by decide +kernel
theorem dX7_in_17 : decode cX7_in 17 = .ok (.iconst 0, 1) := by decide +kernel
theorem dX7_in_18 : decode cX7_in 18 = .ok (.ireturn, 1) := by decide +kernel
theorem dX7_has_0 : decode cX7_has 0 = .ok (.iload_n 0, 1) := by decide +kernel
theorem dX7_has_1 : decode cX7_has 1 = .ok (.iload_n 1, 1) := by decide +kernel
theorem dX7_has_2 : decode cX7_has 2 = .ok (.ishr, 1) := by decide +kernel
theorem dX7_has_3 : decode cX7_has 3 = .ok (.iconst 1, 1) := by decide +kernel
theorem dX7_has_4 : decode cX7_has 4 = .ok (.iand, 1) := by decide +kernel
theorem dX7_has_5 : decode cX7_has 5 = .ok (.iconst 1, 1) := by decide +kernel
theorem dX7_has_6 : decode cX7_has 6 = .ok (.if_icmp .ne 7, 3) := by decide +kernel
theorem dX7_has_9 : decode cX7_has 9 = .ok (.iconst 1, 1) := by decide +kernel
theorem dX7_has_10 : decode cX7_has 10 = .ok (.goto 4, 3) := by decide +kernel
theorem dX7_has_13 : decode cX7_has 13 = .ok (.iconst 0, 1) := by decide +kernel
theorem dX7_has_14 : decode cX7_has 14 = .ok (.ireturn, 1) := by decide +kernel
theorem dX7_many_0 : decode cX7_many 0 = .ok (.iconst 0, 1) := by decide +kernel
theorem dX7_many_1 : decode cX7_many 1 = .ok (.istore_n 1, 1) := by decide +kernel
theorem dX7_many_2 : decode cX7_many 2 = .ok (.iconst 0, 1) := by decide +kernel
theorem dX7_many_3 : decode cX7_many 3 = .ok (.istore_n 2, 1) := by decide +kernel
theorem dX7_many_4 : decode cX7_many 4 = .ok (.iload_n 2, 1) := by decide +kernel
theorem dX7_many_5 : decode cX7_many 5 = .ok (.bipush 6, 2) := by decide +kernel
theorem dX7_many_7 : decode cX7_many 7 = .ok (.if_icmp .ge 17, 3) := by decide +kernel
theorem dX7_many_10 : decode cX7_many 10 = .ok (.iload_n 1, 1) := by decide +kernel
theorem dX7_many_11 : decode cX7_many 11 = .ok (.iload_n 0, 1) := by decide +kernel
theorem dX7_many_12 : decode cX7_many 12 = .ok (.iload_n 2, 1) := by decide +kernel
theorem dX7_many_13 : decode cX7_many 13 = .ok (.ishr, 1) := by decide +kernel
theorem dX7_many_14 : decode cX7_many 14 = .ok (.iconst 1, 1) := by decide +kernel
theorem dX7_many_15 : decode cX7_many 15 = .ok (.iand, 1) := by decide +kernel
theorem dX7_many_16 : decode cX7_many 16 = .ok (.iadd, 1) := by decide +kernel
theorem dX7_many_17 : decode cX7_many 17 = .ok (.istore_n 1, 1) := by decide +kernel
theorem dX7_many_18 : decode cX7_many 18 = .ok (.iinc 2 1, 3) := by decide +kernel
theorem dX7_many_21 : decode cX7_many 21 = .ok (.goto (-17), 3) := by decide +kernel
theorem dX7_many_24 : decode cX7_many 24 = .ok (.iload_n 1, 1) := by decide +kernel
theorem dX7_many_25 : decode cX7_many 25 = .ok (.ireturn, 1) := by decide +kernel
theorem dX7_noHouse_0 : decode cX7_noHouse 0 = .ok (.iload_n 1, 1) := by decide +kernel
theorem dX7_noHouse_1 : decode cX7_noHouse 1 = .ok (.i2l, 1) := by decide +kernel
theorem dX7_noHouse_2 : decode cX7_noHouse 2 = .ok (.lconst 0, 1) := by decide +kernel
theorem dX7_noHouse_3 : decode cX7_noHouse 3 = .ok (.aload_n 0, 1) := by decide +kernel
theorem dX7_noHouse_4 : decode cX7_noHouse 4 = .ok (.getfield 63, 3) := by decide +kernel
theorem dX7_noHouse_7 : decode cX7_noHouse 7 = .ok (.iconst 1, 1) := by decide +kernel
theorem dX7_noHouse_8 : decode cX7_noHouse 8 = .ok (.isub, 1) := by decide +kernel
theorem dX7_noHouse_9 : decode cX7_noHouse 9 = .ok (.i2l, 1) := by decide +kernel
theorem dX7_noHouse_10 : decode cX7_noHouse 10 = .ok (.invokestatic 66, 3) := by decide +kernel
theorem dX7_noHouse_13 : decode cX7_noHouse 13 = .ok (.ifCond .ne 7, 3) := by decide +kernel
theorem dX7_noHouse_16 : decode cX7_noHouse 16 = .ok (.iconst 1, 1) := by decide +kernel
theorem dX7_noHouse_17 : decode cX7_noHouse 17 = .ok (.goto 4, 3) := by decide +kernel
theorem dX7_noHouse_20 : decode cX7_noHouse 20 = .ok (.iconst 0, 1) := by decide +kernel
theorem dX7_noHouse_21 : decode cX7_noHouse 21 = .ok (.ireturn, 1) := by decide +kernel
theorem dX7_write_0 : decode cX7_write 0 = .ok (.aload_n 0, 1) := by decide +kernel
theorem dX7_write_1 : decode cX7_write 1 = .ok (.iconst 0, 1) := by decide +kernel
theorem dX7_write_2 : decode cX7_write 2 = .ok (.putfield 59, 3) := by decide +kernel
theorem dX7_write_5 : decode cX7_write 5 = .ok (.iload_n 1, 1) := by decide +kernel
theorem dX7_write_6 : decode cX7_write 6 = .ok (.i2l, 1) := by decide +kernel
theorem dX7_write_7 : decode cX7_write 7 = .ok (.lconst 0, 1) := by decide +kernel
theorem dX7_write_8 : decode cX7_write 8 = .ok (.ldc2_w 70, 3) := by decide +kernel
theorem dX7_write_11 : decode cX7_write 11 = .ok (.invokestatic 66, 3) := by decide +kernel
theorem dX7_write_14 : decode cX7_write 14 = .ok (.ifCond .ne 6, 3) := by decide +kernel
theorem dX7_write_17 : decode cX7_write 17 = .ok (.bipush (-2), 2) := by decide +kernel
theorem dX7_write_19 : decode cX7_write 19 = .ok (.ireturn, 1) := by decide +kernel
theorem dX7_write_20 : decode cX7_write 20 = .ok (.aload_n 0, 1) := by decide +kernel
theorem dX7_write_21 : decode cX7_write 21 = .ok (.getfield 72, 3) := by decide +kernel
theorem dX7_write_24 : decode cX7_write 24 = .ok (.bipush 48, 2) := by decide +kernel
theorem dX7_write_26 : decode cX7_write 26 = .ok (.if_icmp .ne 6, 3) := by decide +kernel
theorem dX7_write_29 : decode cX7_write 29 = .ok (.bipush (-4), 2) := by decide +kernel
theorem dX7_write_31 : decode cX7_write 31 = .ok (.ireturn, 1) := by decide +kernel
theorem dX7_write_32 : decode cX7_write 32 = .ok (.aload_n 0, 1) := by decide +kernel
theorem dX7_write_33 : decode cX7_write 33 = .ok (.getfield 7, 3) := by decide +kernel
theorem dX7_write_36 : decode cX7_write 36 = .ok (.aload_n 0, 1) := by decide +kernel
theorem dX7_write_37 : decode cX7_write 37 = .ok (.getfield 72, 3) := by decide +kernel
theorem dX7_write_40 : decode cX7_write 40 = .ok (.iload_n 1, 1) := by decide +kernel
theorem dX7_write_41 : decode cX7_write 41 = .ok (.iastore, 1) := by decide +kernel
theorem dX7_write_42 : decode cX7_write 42 = .ok (.aload_n 0, 1) := by decide +kernel
theorem dX7_write_43 : decode cX7_write 43 = .ok (.dup, 1) := by decide +kernel
theorem dX7_write_44 : decode cX7_write 44 = .ok (.getfield 72, 3) := by decide +kernel
theorem dX7_write_47 : decode cX7_write 47 = .ok (.iconst 1, 1) := by decide +kernel
theorem dX7_write_48 : decode cX7_write 48 = .ok (.iadd, 1) := by decide +kernel
theorem dX7_write_49 : decode cX7_write 49 = .ok (.putfield 72, 3) := by decide +kernel
theorem dX7_write_52 : decode cX7_write 52 = .ok (.aload_n 0, 1) := by decide +kernel
theorem dX7_write_53 : decode cX7_write 53 = .ok (.getfield 72, 3) := by decide +kernel
theorem dX7_write_56 : decode cX7_write 56 = .ok (.ireturn, 1) := by decide +kernel
theorem dX7_wipe_0 : decode cX7_wipe 0 = .ok (.aload_n 0, 1) := by decide +kernel
theorem dX7_wipe_1 : decode cX7_wipe 1 = .ok (.iconst 0, 1) := by decide +kernel
theorem dX7_wipe_2 : decode cX7_wipe 2 = .ok (.putfield 59, 3) := by decide +kernel
theorem dX7_wipe_5 : decode cX7_wipe 5 = .ok (.aload_n 0, 1) := by decide +kernel
theorem dX7_wipe_6 : decode cX7_wipe 6 = .ok (.getfield 72, 3) := by decide +kernel
theorem dX7_wipe_9 : decode cX7_wipe 9 = .ok (.istore_n 1, 1) := by decide +kernel
theorem dX7_wipe_10 : decode cX7_wipe 10 = .ok (.aload_n 0, 1) := by decide +kernel
theorem dX7_wipe_11 : decode cX7_wipe 11 = .ok (.iconst 0, 1) := by decide +kernel
theorem dX7_wipe_12 : decode cX7_wipe 12 = .ok (.putfield 72, 3) := by decide +kernel
theorem dX7_wipe_15 : decode cX7_wipe 15 = .ok (.iload_n 1, 1) := by decide +kernel
theorem dX7_wipe_16 : decode cX7_wipe 16 = .ok (.ireturn, 1) := by decide +kernel
theorem dX7_figure_0 : decode cX7_figure 0 = .ok (.aload_n 0, 1) := by decide +kernel
theorem dX7_figure_1 : decode cX7_figure 1 = .ok (.getfield 75, 3) := by decide +kernel
theorem dX7_figure_4 : decode cX7_figure 4 = .ok (.aload_n 0, 1) := by decide +kernel
theorem dX7_figure_5 : decode cX7_figure 5 = .ok (.getfield 72, 3) := by decide +kernel
theorem dX7_figure_8 : decode cX7_figure 8 = .ok (.if_icmp .eq 25, 3) := by decide +kernel
theorem dX7_figure_11 : decode cX7_figure 11 = .ok (.aload_n 0, 1) := by decide +kernel
theorem dX7_figure_12 : decode cX7_figure 12 = .ok (.getfield 7, 3) := by decide +kernel
theorem dX7_figure_15 : decode cX7_figure 15 = .ok (.aload_n 0, 1) := by decide +kernel
theorem dX7_figure_16 : decode cX7_figure 16 = .ok (.getfield 75, 3) := by decide +kernel
theorem dX7_figure_19 : decode cX7_figure 19 = .ok (.iaload, 1) := by decide +kernel
theorem dX7_figure_20 : decode cX7_figure 20 = .ok (.bipush 48, 2) := by decide +kernel
theorem dX7_figure_22 : decode cX7_figure 22 = .ok (.isub, 1) := by decide +kernel
theorem dX7_figure_23 : decode cX7_figure 23 = .ok (.i2l, 1) := by decide +kernel
theorem dX7_figure_24 : decode cX7_figure 24 = .ok (.lconst 0, 1) := by decide +kernel
theorem dX7_figure_25 : decode cX7_figure 25 = .ok (.iload_n 1, 1) := by decide +kernel
theorem dX7_figure_26 : decode cX7_figure 26 = .ok (.i2l, 1) := by decide +kernel
theorem dX7_figure_27 : decode cX7_figure 27 = .ok (.invokestatic 66, 3) := by decide +kernel
theorem dX7_figure_30 : decode cX7_figure 30 = .ok (.ifCond .ne 6, 3) := by decide +kernel
theorem dX7_figure_33 : decode cX7_figure 33 = .ok (.bipush (-9), 2) := by decide +kernel
theorem dX7_figure_35 : decode cX7_figure 35 = .ok (.ireturn, 1) := by decide +kernel
theorem dX7_figure_36 : decode cX7_figure 36 = .ok (.aload_n 0, 1) := by decide +kernel
theorem dX7_figure_37 : decode cX7_figure 37 = .ok (.dup, 1) := by decide +kernel
theorem dX7_figure_38 : decode cX7_figure 38 = .ok (.getfield 75, 3) := by decide +kernel
theorem dX7_figure_41 : decode cX7_figure 41 = .ok (.iconst 1, 1) := by decide +kernel
theorem dX7_figure_42 : decode cX7_figure 42 = .ok (.iadd, 1) := by decide +kernel
theorem dX7_figure_43 : decode cX7_figure 43 = .ok (.putfield 75, 3) := by decide +kernel
theorem dX7_figure_46 : decode cX7_figure 46 = .ok (.aload_n 0, 1) := by decide +kernel
theorem dX7_figure_47 : decode cX7_figure 47 = .ok (.getfield 7, 3) := by decide +kernel
theorem dX7_figure_50 : decode cX7_figure 50 = .ok (.aload_n 0, 1) := by decide +kernel
theorem dX7_figure_51 : decode cX7_figure 51 = .ok (.getfield 75, 3) := by decide +kernel
theorem dX7_figure_54 : decode cX7_figure 54 = .ok (.iconst 1, 1) := by decide +kernel
theorem dX7_figure_55 : decode cX7_figure 55 = .ok (.isub, 1) := by decide +kernel
theorem dX7_figure_56 : decode cX7_figure 56 = .ok (.iaload, 1) := by decide +kernel
theorem dX7_figure_57 : decode cX7_figure 57 = .ok (.bipush 48, 2) := by decide +kernel
theorem dX7_figure_59 : decode cX7_figure 59 = .ok (.isub, 1) := by decide +kernel
theorem dX7_figure_60 : decode cX7_figure 60 = .ok (.ireturn, 1) := by decide +kernel
theorem dX7_readHouse_0 : decode cX7_readHouse 0 = .ok (.iconst 0, 1) := by decide +kernel
theorem dX7_readHouse_1 : decode cX7_readHouse 1 = .ok (.istore_n 1, 1) := by decide +kernel
theorem dX7_readHouse_2 : decode cX7_readHouse 2 = .ok (.iload_n 1, 1) := by decide +kernel
theorem dX7_readHouse_3 : decode cX7_readHouse 3 = .ok (.iconst 4, 1) := by decide +kernel
theorem dX7_readHouse_4 : decode cX7_readHouse 4 = .ok (.if_icmp .ge 46, 3) := by decide +kernel
theorem dX7_readHouse_7 : decode cX7_readHouse 7 = .ok (.aload_n 0, 1) := by decide +kernel
theorem dX7_readHouse_8 : decode cX7_readHouse 8 = .ok (.iload_n 1, 1) := by decide +kernel
theorem dX7_readHouse_9 : decode cX7_readHouse 9 = .ok (.ifCond .ne 7, 3) := by decide +kernel
theorem dX7_readHouse_12 : decode cX7_readHouse 12 = .ok (.iconst 3, 1) := by decide +kernel
theorem dX7_readHouse_13 : decode cX7_readHouse 13 = .ok (.goto 5, 3) := by decide +kernel
theorem dX7_readHouse_16 : decode cX7_readHouse 16 = .ok (.bipush 9, 2) := by decide +kernel
theorem dX7_readHouse_18 : decode cX7_readHouse 18 = .ok (.invokevirtual 78, 3) := by decide +kernel
theorem dX7_readHouse_21 : decode cX7_readHouse 21 = .ok (.istore_n 2, 1) := by decide +kernel
theorem dX7_readHouse_22 : decode cX7_readHouse 22 = .ok (.iload_n 2, 1) := by decide +kernel
theorem dX7_readHouse_23 : decode cX7_readHouse 23 = .ok (.bipush (-9), 2) := by decide +kernel
theorem dX7_readHouse_25 : decode cX7_readHouse 25 = .ok (.if_icmp .ne 5, 3) := by decide +kernel
theorem dX7_readHouse_28 : decode cX7_readHouse 28 = .ok (.iconst 0, 1) := by decide +kernel
theorem dX7_readHouse_29 : decode cX7_readHouse 29 = .ok (.ireturn, 1) := by decide +kernel
theorem dX7_readHouse_30 : decode cX7_readHouse 30 = .ok (.aload_n 0, 1) := by decide +kernel
theorem dX7_readHouse_31 : decode cX7_readHouse 31 = .ok (.getfield 19, 3) := by decide +kernel
theorem dX7_readHouse_34 : decode cX7_readHouse 34 = .ok (.iconst 4, 1) := by decide +kernel
theorem dX7_readHouse_35 : decode cX7_readHouse 35 = .ok (.aload_n 0, 1) := by decide +kernel
theorem dX7_readHouse_36 : decode cX7_readHouse 36 = .ok (.getfield 82, 3) := by decide +kernel
theorem dX7_readHouse_39 : decode cX7_readHouse 39 = .ok (.imul, 1) := by decide +kernel
theorem dX7_readHouse_40 : decode cX7_readHouse 40 = .ok (.iload_n 1, 1) := by decide +kernel
theorem dX7_readHouse_41 : decode cX7_readHouse 41 = .ok (.iadd, 1) := by decide +kernel
theorem dX7_readHouse_42 : decode cX7_readHouse 42 = .ok (.iload_n 2, 1) := by decide +kernel
theorem dX7_readHouse_43 : decode cX7_readHouse 43 = .ok (.iastore, 1) := by decide +kernel
theorem dX7_readHouse_44 : decode cX7_readHouse 44 = .ok (.iinc 1 1, 3) := by decide +kernel
theorem dX7_readHouse_47 : decode cX7_readHouse 47 = .ok (.goto (-45), 3) := by decide +kernel
theorem dX7_readHouse_50 : decode cX7_readHouse 50 = .ok (.aload_n 0, 1) := by decide +kernel
theorem dX7_readHouse_51 : decode cX7_readHouse 51 = .ok (.dup, 1) := by decide +kernel
theorem dX7_readHouse_52 : decode cX7_readHouse 52 = .ok (.getfield 82, 3) := by decide +kernel
theorem dX7_readHouse_55 : decode cX7_readHouse 55 = .ok (.iconst 1, 1) := by decide +kernel
theorem dX7_readHouse_56 : decode cX7_readHouse 56 = .ok (.iadd, 1) := by decide +kernel
theorem dX7_readHouse_57 : decode cX7_readHouse 57 = .ok (.putfield 82, 3) := by decide +kernel
theorem dX7_readHouse_60 : decode cX7_readHouse 60 = .ok (.iconst 1, 1) := by decide +kernel
theorem dX7_readHouse_61 : decode cX7_readHouse 61 = .ok (.ireturn, 1) := by decide +kernel
theorem dX7_readStreet_0 : decode cX7_readStreet 0 = .ok (.aload_n 0, 1) := by decide +kernel
theorem dX7_readStreet_1 : decode cX7_readStreet 1 = .ok (.iconst 0, 1) := by decide +kernel
theorem dX7_readStreet_2 : decode cX7_readStreet 2 = .ok (.putfield 75, 3) := by decide +kernel
theorem dX7_readStreet_5 : decode cX7_readStreet 5 = .ok (.aload_n 0, 1) := by decide +kernel
theorem dX7_readStreet_6 : decode cX7_readStreet 6 = .ok (.iconst 0, 1) := by decide +kernel
theorem dX7_readStreet_7 : decode cX7_readStreet 7 = .ok (.putfield 82, 3) := by decide +kernel
theorem dX7_readStreet_10 : decode cX7_readStreet 10 = .ok (.aload_n 0, 1) := by decide +kernel
theorem dX7_readStreet_11 : decode cX7_readStreet 11 = .ok (.getfield 72, 3) := by decide +kernel
theorem dX7_readStreet_14 : decode cX7_readStreet 14 = .ok (.ifCond .eq 14, 3) := by decide +kernel
theorem dX7_readStreet_17 : decode cX7_readStreet 17 = .ok (.aload_n 0, 1) := by decide +kernel
theorem dX7_readStreet_18 : decode cX7_readStreet 18 = .ok (.getfield 7, 3) := by decide +kernel
theorem dX7_readStreet_21 : decode cX7_readStreet 21 = .ok (.iconst 0, 1) := by decide +kernel
theorem dX7_readStreet_22 : decode cX7_readStreet 22 = .ok (.iaload, 1) := by decide +kernel
theorem dX7_readStreet_23 : decode cX7_readStreet 23 = .ok (.bipush 78, 2) := by decide +kernel
theorem dX7_readStreet_25 : decode cX7_readStreet 25 = .ok (.if_icmp .eq 5, 3) := by decide +kernel
theorem dX7_readStreet_28 : decode cX7_readStreet 28 = .ok (.iconst 0, 1) := by decide +kernel
theorem dX7_readStreet_29 : decode cX7_readStreet 29 = .ok (.ireturn, 1) := by decide +kernel
theorem dX7_readStreet_30 : decode cX7_readStreet 30 = .ok (.aload_n 0, 1) := by decide +kernel
theorem dX7_readStreet_31 : decode cX7_readStreet 31 = .ok (.iconst 1, 1) := by decide +kernel
theorem dX7_readStreet_32 : decode cX7_readStreet 32 = .ok (.putfield 75, 3) := by decide +kernel
theorem dX7_readStreet_35 : decode cX7_readStreet 35 = .ok (.aload_n 0, 1) := by decide +kernel
theorem dX7_readStreet_36 : decode cX7_readStreet 36 = .ok (.aload_n 0, 1) := by decide +kernel
theorem dX7_readStreet_37 : decode cX7_readStreet 37 = .ok (.bipush 9, 2) := by decide +kernel
theorem dX7_readStreet_39 : decode cX7_readStreet 39 = .ok (.invokevirtual 78, 3) := by decide +kernel
theorem dX7_readStreet_42 : decode cX7_readStreet 42 = .ok (.putfield 85, 3) := by decide +kernel
theorem dX7_readStreet_45 : decode cX7_readStreet 45 = .ok (.aload_n 0, 1) := by decide +kernel
theorem dX7_readStreet_46 : decode cX7_readStreet 46 = .ok (.getfield 85, 3) := by decide +kernel
theorem dX7_readStreet_49 : decode cX7_readStreet 49 = .ok (.bipush (-9), 2) := by decide +kernel
theorem dX7_readStreet_51 : decode cX7_readStreet 51 = .ok (.if_icmp .ne 8, 3) := by decide +kernel
theorem dX7_readStreet_54 : decode cX7_readStreet 54 = .ok (.aload_n 0, 1) := by decide +kernel
theorem dX7_readStreet_55 : decode cX7_readStreet 55 = .ok (.getfield 75, 3) := by decide +kernel
theorem dX7_readStreet_58 : decode cX7_readStreet 58 = .ok (.ireturn, 1) := by decide +kernel
theorem dX7_readStreet_59 : decode cX7_readStreet 59 = .ok (.aload_n 0, 1) := by decide +kernel
theorem dX7_readStreet_60 : decode cX7_readStreet 60 = .ok (.getfield 75, 3) := by decide +kernel
theorem dX7_readStreet_63 : decode cX7_readStreet 63 = .ok (.aload_n 0, 1) := by decide +kernel
theorem dX7_readStreet_64 : decode cX7_readStreet 64 = .ok (.getfield 72, 3) := by decide +kernel
theorem dX7_readStreet_67 : decode cX7_readStreet 67 = .ok (.if_icmp .ge 53, 3) := by decide +kernel
theorem dX7_readStreet_70 : decode cX7_readStreet 70 = .ok (.aload_n 0, 1) := by decide +kernel
theorem dX7_readStreet_71 : decode cX7_readStreet 71 = .ok (.getfield 7, 3) := by decide +kernel
theorem dX7_readStreet_74 : decode cX7_readStreet 74 = .ok (.aload_n 0, 1) := by decide +kernel
theorem dX7_readStreet_75 : decode cX7_readStreet 75 = .ok (.getfield 75, 3) := by decide +kernel
theorem dX7_readStreet_78 : decode cX7_readStreet 78 = .ok (.iaload, 1) := by decide +kernel
theorem dX7_readStreet_79 : decode cX7_readStreet 79 = .ok (.bipush 72, 2) := by decide +kernel
theorem dX7_readStreet_81 : decode cX7_readStreet 81 = .ok (.if_icmp .ne 12, 3) := by decide +kernel
theorem dX7_readStreet_84 : decode cX7_readStreet 84 = .ok (.aload_n 0, 1) := by decide +kernel
theorem dX7_readStreet_85 : decode cX7_readStreet 85 = .ok (.getfield 82, 3) := by decide +kernel
theorem dX7_readStreet_88 : decode cX7_readStreet 88 = .ok (.bipush 6, 2) := by decide +kernel
theorem dX7_readStreet_90 : decode cX7_readStreet 90 = .ok (.if_icmp .ne 8, 3) := by decide +kernel
theorem dX7_readStreet_93 : decode cX7_readStreet 93 = .ok (.aload_n 0, 1) := by decide +kernel
theorem dX7_readStreet_94 : decode cX7_readStreet 94 = .ok (.getfield 75, 3) := by decide +kernel
theorem dX7_readStreet_97 : decode cX7_readStreet 97 = .ok (.ireturn, 1) := by decide +kernel
theorem dX7_readStreet_98 : decode cX7_readStreet 98 = .ok (.aload_n 0, 1) := by decide +kernel
theorem dX7_readStreet_99 : decode cX7_readStreet 99 = .ok (.dup, 1) := by decide +kernel
theorem dX7_readStreet_100 : decode cX7_readStreet 100 = .ok (.getfield 75, 3) := by decide +kernel
theorem dX7_readStreet_103 : decode cX7_readStreet 103 = .ok (.iconst 1, 1) := by decide +kernel
theorem dX7_readStreet_104 : decode cX7_readStreet 104 = .ok (.iadd, 1) := by decide +kernel
theorem dX7_readStreet_105 : decode cX7_readStreet 105 = .ok (.putfield 75, 3) := by decide +kernel
theorem dX7_readStreet_108 : decode cX7_readStreet 108 = .ok (.aload_n 0, 1) := by decide +kernel
theorem dX7_readStreet_109 : decode cX7_readStreet 109 = .ok (.invokevirtual 88, 3) := by decide +kernel
theorem dX7_readStreet_112 : decode cX7_readStreet 112 = .ok (.ifCond .ne (-53), 3) := by decide +kernel
theorem dX7_readStreet_115 : decode cX7_readStreet 115 = .ok (.aload_n 0, 1) := by decide +kernel
theorem dX7_readStreet_116 : decode cX7_readStreet 116 = .ok (.getfield 75, 3) := by decide +kernel
theorem dX7_readStreet_119 : decode cX7_readStreet 119 = .ok (.ireturn, 1) := by decide +kernel
theorem dX7_readStreet_120 : decode cX7_readStreet 120 = .ok (.bipush (-9), 2) := by decide +kernel
theorem dX7_readStreet_122 : decode cX7_readStreet 122 = .ok (.ireturn, 1) := by decide +kernel
theorem dX7_fault_0 : decode cX7_fault 0 = .ok (.aload_n 0, 1) := by decide +kernel
theorem dX7_fault_1 : decode cX7_fault 1 = .ok (.iconst 0, 1) := by decide +kernel
theorem dX7_fault_2 : decode cX7_fault 2 = .ok (.putfield 59, 3) := by decide +kernel
theorem dX7_fault_5 : decode cX7_fault 5 = .ok (.aload_n 0, 1) := by decide +kernel
theorem dX7_fault_6 : decode cX7_fault 6 = .ok (.invokevirtual 91, 3) := by decide +kernel
theorem dX7_fault_9 : decode cX7_fault 9 = .ok (.ireturn, 1) := by decide +kernel
theorem dX7_street_0 : decode cX7_street 0 = .ok (.aload_n 0, 1) := by decide +kernel
theorem dX7_street_1 : decode cX7_street 1 = .ok (.iconst 0, 1) := by decide +kernel
theorem dX7_street_2 : decode cX7_street 2 = .ok (.putfield 59, 3) := by decide +kernel
theorem dX7_street_5 : decode cX7_street 5 = .ok (.aload_n 0, 1) := by decide +kernel
theorem dX7_street_6 : decode cX7_street 6 = .ok (.invokevirtual 91, 3) := by decide +kernel
theorem dX7_street_9 : decode cX7_street 9 = .ok (.bipush (-9), 2) := by decide +kernel
theorem dX7_street_11 : decode cX7_street 11 = .ok (.if_icmp .eq 6, 3) := by decide +kernel
theorem dX7_street_14 : decode cX7_street 14 = .ok (.bipush (-3), 2) := by decide +kernel
theorem dX7_street_16 : decode cX7_street 16 = .ok (.ireturn, 1) := by decide +kernel
theorem dX7_street_17 : decode cX7_street 17 = .ok (.aload_n 0, 1) := by decide +kernel
theorem dX7_street_18 : decode cX7_street 18 = .ok (.aload_n 0, 1) := by decide +kernel
theorem dX7_street_19 : decode cX7_street 19 = .ok (.getfield 82, 3) := by decide +kernel
theorem dX7_street_22 : decode cX7_street 22 = .ok (.putfield 63, 3) := by decide +kernel
theorem dX7_street_25 : decode cX7_street 25 = .ok (.iconst 0, 1) := by decide +kernel
theorem dX7_street_26 : decode cX7_street 26 = .ok (.istore_n 1, 1) := by decide +kernel
theorem dX7_street_27 : decode cX7_street 27 = .ok (.iload_n 1, 1) := by decide +kernel
theorem dX7_street_28 : decode cX7_street 28 = .ok (.aload_n 0, 1) := by decide +kernel
theorem dX7_street_29 : decode cX7_street 29 = .ok (.getfield 63, 3) := by decide +kernel
theorem dX7_street_32 : decode cX7_street 32 = .ok (.if_icmp .ge 58, 3) := by decide +kernel
theorem dX7_street_35 : decode cX7_street 35 = .ok (.aload_n 0, 1) := by decide +kernel
theorem dX7_street_36 : decode cX7_street 36 = .ok (.getfield 13, 3) := by decide +kernel
theorem dX7_street_39 : decode cX7_street 39 = .ok (.iload_n 1, 1) := by decide +kernel
theorem dX7_street_40 : decode cX7_street 40 = .ok (.aload_n 0, 1) := by decide +kernel
theorem dX7_street_41 : decode cX7_street 41 = .ok (.getfield 19, 3) := by decide +kernel
theorem dX7_street_44 : decode cX7_street 44 = .ok (.iconst 4, 1) := by decide +kernel
theorem dX7_street_45 : decode cX7_street 45 = .ok (.iload_n 1, 1) := by decide +kernel
theorem dX7_street_46 : decode cX7_street 46 = .ok (.imul, 1) := by decide +kernel
theorem dX7_street_47 : decode cX7_street 47 = .ok (.iaload, 1) := by decide +kernel
theorem dX7_street_48 : decode cX7_street 48 = .ok (.iastore, 1) := by decide +kernel
theorem dX7_street_49 : decode cX7_street 49 = .ok (.iconst 0, 1) := by decide +kernel
theorem dX7_street_50 : decode cX7_street 50 = .ok (.istore_n 2, 1) := by decide +kernel
theorem dX7_street_51 : decode cX7_street 51 = .ok (.iload_n 2, 1) := by decide +kernel
theorem dX7_street_52 : decode cX7_street 52 = .ok (.iconst 3, 1) := by decide +kernel
theorem dX7_street_53 : decode cX7_street 53 = .ok (.if_icmp .ge 31, 3) := by decide +kernel
theorem dX7_street_56 : decode cX7_street 56 = .ok (.aload_n 0, 1) := by decide +kernel
theorem dX7_street_57 : decode cX7_street 57 = .ok (.getfield 16, 3) := by decide +kernel
theorem dX7_street_60 : decode cX7_street 60 = .ok (.iconst 3, 1) := by decide +kernel
theorem dX7_street_61 : decode cX7_street 61 = .ok (.iload_n 1, 1) := by decide +kernel
theorem dX7_street_62 : decode cX7_street 62 = .ok (.imul, 1) := by decide +kernel
theorem dX7_street_63 : decode cX7_street 63 = .ok (.iload_n 2, 1) := by decide +kernel
theorem dX7_street_64 : decode cX7_street 64 = .ok (.iadd, 1) := by decide +kernel
theorem dX7_street_65 : decode cX7_street 65 = .ok (.aload_n 0, 1) := by decide +kernel
theorem dX7_street_66 : decode cX7_street 66 = .ok (.getfield 19, 3) := by decide +kernel
theorem dX7_street_69 : decode cX7_street 69 = .ok (.iconst 4, 1) := by decide +kernel
theorem dX7_street_70 : decode cX7_street 70 = .ok (.iload_n 1, 1) := by decide +kernel
theorem dX7_street_71 : decode cX7_street 71 = .ok (.imul, 1) := by decide +kernel
theorem dX7_street_72 : decode cX7_street 72 = .ok (.iconst 1, 1) := by decide +kernel
theorem dX7_street_73 : decode cX7_street 73 = .ok (.iadd, 1) := by decide +kernel
theorem dX7_street_74 : decode cX7_street 74 = .ok (.iload_n 2, 1) := by decide +kernel
theorem dX7_street_75 : decode cX7_street 75 = .ok (.iadd, 1) := by decide +kernel
theorem dX7_street_76 : decode cX7_street 76 = .ok (.iaload, 1) := by decide +kernel
theorem dX7_street_77 : decode cX7_street 77 = .ok (.iastore, 1) := by decide +kernel
theorem dX7_street_78 : decode cX7_street 78 = .ok (.iinc 2 1, 3) := by decide +kernel
theorem dX7_street_81 : decode cX7_street 81 = .ok (.goto (-30), 3) := by decide +kernel
theorem dX7_street_84 : decode cX7_street 84 = .ok (.iinc 1 1, 3) := by decide +kernel
theorem dX7_street_87 : decode cX7_street 87 = .ok (.goto (-60), 3) := by decide +kernel
theorem dX7_street_90 : decode cX7_street 90 = .ok (.iconst 0, 1) := by decide +kernel
theorem dX7_street_91 : decode cX7_street 91 = .ok (.istore_n 1, 1) := by decide +kernel
theorem dX7_street_92 : decode cX7_street 92 = .ok (.iload_n 1, 1) := by decide +kernel
theorem dX7_street_93 : decode cX7_street 93 = .ok (.bipush 12, 2) := by decide +kernel
theorem dX7_street_95 : decode cX7_street 95 = .ok (.if_icmp .ge 16, 3) := by decide +kernel
theorem dX7_street_98 : decode cX7_street 98 = .ok (.aload_n 0, 1) := by decide +kernel
theorem dX7_street_99 : decode cX7_street 99 = .ok (.getfield 22, 3) := by decide +kernel
theorem dX7_street_102 : decode cX7_street 102 = .ok (.iload_n 1, 1) := by decide +kernel
theorem dX7_street_103 : decode cX7_street 103 = .ok (.iconst 0, 1) := by decide +kernel
theorem dX7_street_104 : decode cX7_street 104 = .ok (.iastore, 1) := by decide +kernel
theorem dX7_street_105 : decode cX7_street 105 = .ok (.iinc 1 1, 3) := by decide +kernel
theorem dX7_street_108 : decode cX7_street 108 = .ok (.goto (-16), 3) := by decide +kernel
theorem dX7_street_111 : decode cX7_street 111 = .ok (.aload_n 0, 1) := by decide +kernel
theorem dX7_street_112 : decode cX7_street 112 = .ok (.getfield 22, 3) := by decide +kernel
theorem dX7_street_115 : decode cX7_street 115 = .ok (.iconst 1, 1) := by decide +kernel
theorem dX7_street_116 : decode cX7_street 116 = .ok (.aload_n 0, 1) := by decide +kernel
theorem dX7_street_117 : decode cX7_street 117 = .ok (.getfield 85, 3) := by decide +kernel
theorem dX7_street_120 : decode cX7_street 120 = .ok (.iastore, 1) := by decide +kernel
theorem dX7_street_121 : decode cX7_street 121 = .ok (.aload_n 0, 1) := by decide +kernel
theorem dX7_street_122 : decode cX7_street 122 = .ok (.getfield 22, 3) := by decide +kernel
theorem dX7_street_125 : decode cX7_street 125 = .ok (.iconst 4, 1) := by decide +kernel
theorem dX7_street_126 : decode cX7_street 126 = .ok (.iconst 1, 1) := by decide +kernel
theorem dX7_street_127 : decode cX7_street 127 = .ok (.aload_n 0, 1) := by decide +kernel
theorem dX7_street_128 : decode cX7_street 128 = .ok (.getfield 63, 3) := by decide +kernel
theorem dX7_street_131 : decode cX7_street 131 = .ok (.ishl, 1) := by decide +kernel
theorem dX7_street_132 : decode cX7_street 132 = .ok (.iconst 1, 1) := by decide +kernel
theorem dX7_street_133 : decode cX7_street 133 = .ok (.isub, 1) := by decide +kernel
theorem dX7_street_134 : decode cX7_street 134 = .ok (.iastore, 1) := by decide +kernel
theorem dX7_street_135 : decode cX7_street 135 = .ok (.aload_n 0, 1) := by decide +kernel
theorem dX7_street_136 : decode cX7_street 136 = .ok (.iconst 0, 1) := by decide +kernel
theorem dX7_street_137 : decode cX7_street 137 = .ok (.putfield 95, 3) := by decide +kernel
theorem dX7_street_140 : decode cX7_street 140 = .ok (.aload_n 0, 1) := by decide +kernel
theorem dX7_street_141 : decode cX7_street 141 = .ok (.getfield 37, 3) := by decide +kernel
theorem dX7_street_144 : decode cX7_street 144 = .ok (.iconst 0, 1) := by decide +kernel
theorem dX7_street_145 : decode cX7_street 145 = .ok (.iconst 0, 1) := by decide +kernel
theorem dX7_street_146 : decode cX7_street 146 = .ok (.bastore, 1) := by decide +kernel
theorem dX7_street_147 : decode cX7_street 147 = .ok (.aload_n 0, 1) := by decide +kernel
theorem dX7_street_148 : decode cX7_street 148 = .ok (.getfield 37, 3) := by decide +kernel
theorem dX7_street_151 : decode cX7_street 151 = .ok (.iconst 1, 1) := by decide +kernel
theorem dX7_street_152 : decode cX7_street 152 = .ok (.iconst 0, 1) := by decide +kernel
theorem dX7_street_153 : decode cX7_street 153 = .ok (.bastore, 1) := by decide +kernel
theorem dX7_street_154 : decode cX7_street 154 = .ok (.aload_n 0, 1) := by decide +kernel
theorem dX7_street_155 : decode cX7_street 155 = .ok (.getfield 63, 3) := by decide +kernel
theorem dX7_street_158 : decode cX7_street 158 = .ok (.ireturn, 1) := by decide +kernel
theorem dX7_showsBy_0 : decode cX7_showsBy 0 = .ok (.iload_n 0, 1) := by decide +kernel
theorem dX7_showsBy_1 : decode cX7_showsBy 1 = .ok (.tableswitch 55 1 3 #[27, 31, 43], 27) := by decide +kernel
theorem dX7_showsBy_28 : decode cX7_showsBy 28 = .ok (.iload_n 1, 1) := by decide +kernel
theorem dX7_showsBy_29 : decode cX7_showsBy 29 = .ok (.iconst 2, 1) := by decide +kernel
theorem dX7_showsBy_30 : decode cX7_showsBy 30 = .ok (.idiv, 1) := by decide +kernel
theorem dX7_showsBy_31 : decode cX7_showsBy 31 = .ok (.ireturn, 1) := by decide +kernel
theorem dX7_showsBy_32 : decode cX7_showsBy 32 = .ok (.iload_n 1, 1) := by decide +kernel
theorem dX7_showsBy_33 : decode cX7_showsBy 33 = .ok (.ifCond .ne 7, 3) := by decide +kernel
theorem dX7_showsBy_36 : decode cX7_showsBy 36 = .ok (.iconst 0, 1) := by decide +kernel
theorem dX7_showsBy_37 : decode cX7_showsBy 37 = .ok (.goto 6, 3) := by decide +kernel
theorem dX7_showsBy_40 : decode cX7_showsBy 40 = .ok (.iload_n 1, 1) := by decide +kernel
theorem dX7_showsBy_41 : decode cX7_showsBy 41 = .ok (.iconst 1, 1) := by decide +kernel
theorem dX7_showsBy_42 : decode cX7_showsBy 42 = .ok (.iadd, 1) := by decide +kernel
theorem dX7_showsBy_43 : decode cX7_showsBy 43 = .ok (.ireturn, 1) := by decide +kernel
theorem dX7_showsBy_44 : decode cX7_showsBy 44 = .ok (.iload_n 2, 1) := by decide +kernel
theorem dX7_showsBy_45 : decode cX7_showsBy 45 = .ok (.iconst 2, 1) := by decide +kernel
theorem dX7_showsBy_46 : decode cX7_showsBy 46 = .ok (.irem, 1) := by decide +kernel
theorem dX7_showsBy_47 : decode cX7_showsBy 47 = .ok (.ifCond .ne 7, 3) := by decide +kernel
theorem dX7_showsBy_50 : decode cX7_showsBy 50 = .ok (.iload_n 1, 1) := by decide +kernel
theorem dX7_showsBy_51 : decode cX7_showsBy 51 = .ok (.goto 4, 3) := by decide +kernel
theorem dX7_showsBy_54 : decode cX7_showsBy 54 = .ok (.iconst 0, 1) := by decide +kernel
theorem dX7_showsBy_55 : decode cX7_showsBy 55 = .ok (.ireturn, 1) := by decide +kernel
theorem dX7_showsBy_56 : decode cX7_showsBy 56 = .ok (.iload_n 1, 1) := by decide +kernel
theorem dX7_showsBy_57 : decode cX7_showsBy 57 = .ok (.ireturn, 1) := by decide +kernel
theorem dX7_sightOf_0 : decode cX7_sightOf 0 = .ok (.aload_n 1, 1) := by decide +kernel
theorem dX7_sightOf_1 : decode cX7_sightOf 1 = .ok (.iconst 4, 1) := by decide +kernel
theorem dX7_sightOf_2 : decode cX7_sightOf 2 = .ok (.iaload, 1) := by decide +kernel
theorem dX7_sightOf_3 : decode cX7_sightOf 3 = .ok (.iload_n 2, 1) := by decide +kernel
theorem dX7_sightOf_4 : decode cX7_sightOf 4 = .ok (.invokestatic 98, 3) := by decide +kernel
theorem dX7_sightOf_7 : decode cX7_sightOf 7 = .ok (.ifCond .eq 17, 3) := by decide +kernel
theorem dX7_sightOf_10 : decode cX7_sightOf 10 = .ok (.aload_n 1, 1) := by decide +kernel
theorem dX7_sightOf_11 : decode cX7_sightOf 11 = .ok (.iconst 5, 1) := by decide +kernel
theorem dX7_sightOf_12 : decode cX7_sightOf 12 = .ok (.iaload, 1) := by decide +kernel
theorem dX7_sightOf_13 : decode cX7_sightOf 13 = .ok (.iload_n 2, 1) := by decide +kernel
theorem dX7_sightOf_14 : decode cX7_sightOf 14 = .ok (.invokestatic 98, 3) := by decide +kernel
theorem dX7_sightOf_17 : decode cX7_sightOf 17 = .ok (.ifCond .ne 7, 3) := by decide +kernel
theorem dX7_sightOf_20 : decode cX7_sightOf 20 = .ok (.iconst 1, 1) := by decide +kernel
theorem dX7_sightOf_21 : decode cX7_sightOf 21 = .ok (.goto 4, 3) := by decide +kernel
theorem dX7_sightOf_24 : decode cX7_sightOf 24 = .ok (.iconst 0, 1) := by decide +kernel
theorem dX7_sightOf_25 : decode cX7_sightOf 25 = .ok (.istore 4, 2) := by decide +kernel
theorem dX7_sightOf_27 : decode cX7_sightOf 27 = .ok (.iload 4, 2) := by decide +kernel
theorem dX7_sightOf_29 : decode cX7_sightOf 29 = .ok (.ifCond .eq 28, 3) := by decide +kernel
theorem dX7_sightOf_32 : decode cX7_sightOf 32 = .ok (.aload_n 0, 1) := by decide +kernel
theorem dX7_sightOf_33 : decode cX7_sightOf 33 = .ok (.getfield 13, 3) := by decide +kernel
theorem dX7_sightOf_36 : decode cX7_sightOf 36 = .ok (.iload_n 2, 1) := by decide +kernel
theorem dX7_sightOf_37 : decode cX7_sightOf 37 = .ok (.iaload, 1) := by decide +kernel
theorem dX7_sightOf_38 : decode cX7_sightOf 38 = .ok (.aload_n 0, 1) := by decide +kernel
theorem dX7_sightOf_39 : decode cX7_sightOf 39 = .ok (.getfield 16, 3) := by decide +kernel
theorem dX7_sightOf_42 : decode cX7_sightOf 42 = .ok (.iconst 3, 1) := by decide +kernel
theorem dX7_sightOf_43 : decode cX7_sightOf 43 = .ok (.iload_n 2, 1) := by decide +kernel
theorem dX7_sightOf_44 : decode cX7_sightOf 44 = .ok (.imul, 1) := by decide +kernel
theorem dX7_sightOf_45 : decode cX7_sightOf 45 = .ok (.iload_n 3, 1) := by decide +kernel
theorem dX7_sightOf_46 : decode cX7_sightOf 46 = .ok (.iconst 3, 1) := by decide +kernel
theorem dX7_sightOf_47 : decode cX7_sightOf 47 = .ok (.irem, 1) := by decide +kernel
theorem dX7_sightOf_48 : decode cX7_sightOf 48 = .ok (.iadd, 1) := by decide +kernel
theorem dX7_sightOf_49 : decode cX7_sightOf 49 = .ok (.iaload, 1) := by decide +kernel
theorem dX7_sightOf_50 : decode cX7_sightOf 50 = .ok (.iload_n 3, 1) := by decide +kernel
theorem dX7_sightOf_51 : decode cX7_sightOf 51 = .ok (.invokestatic 102, 3) := by decide +kernel
theorem dX7_sightOf_54 : decode cX7_sightOf 54 = .ok (.goto 4, 3) := by decide +kernel
theorem dX7_sightOf_57 : decode cX7_sightOf 57 = .ok (.iconst 0, 1) := by decide +kernel
theorem dX7_sightOf_58 : decode cX7_sightOf 58 = .ok (.ireturn, 1) := by decide +kernel
theorem dX7_about_0 : decode cX7_about 0 = .ok (.aload_n 0, 1) := by decide +kernel
theorem dX7_about_1 : decode cX7_about 1 = .ok (.iconst 0, 1) := by decide +kernel
theorem dX7_about_2 : decode cX7_about 2 = .ok (.putfield 59, 3) := by decide +kernel
theorem dX7_about_5 : decode cX7_about 5 = .ok (.iload_n 1, 1) := by decide +kernel
theorem dX7_about_6 : decode cX7_about 6 = .ok (.tableswitch 116 0 9 #[54, 59, 66, 73, 80, 87, 94, 101, 106, 111], 54) := by decide +kernel
theorem dX7_about_60 : decode cX7_about 60 = .ok (.aload_n 0, 1) := by decide +kernel
theorem dX7_about_61 : decode cX7_about 61 = .ok (.getfield 63, 3) := by decide +kernel
theorem dX7_about_64 : decode cX7_about 64 = .ok (.ireturn, 1) := by decide +kernel
theorem dX7_about_65 : decode cX7_about 65 = .ok (.aload_n 0, 1) := by decide +kernel
theorem dX7_about_66 : decode cX7_about 66 = .ok (.getfield 22, 3) := by decide +kernel
theorem dX7_about_69 : decode cX7_about 69 = .ok (.iconst 0, 1) := by decide +kernel
theorem dX7_about_70 : decode cX7_about 70 = .ok (.iaload, 1) := by decide +kernel
theorem dX7_about_71 : decode cX7_about 71 = .ok (.ireturn, 1) := by decide +kernel
theorem dX7_about_72 : decode cX7_about 72 = .ok (.aload_n 0, 1) := by decide +kernel
theorem dX7_about_73 : decode cX7_about 73 = .ok (.getfield 22, 3) := by decide +kernel
theorem dX7_about_76 : decode cX7_about 76 = .ok (.iconst 1, 1) := by decide +kernel
theorem dX7_about_77 : decode cX7_about 77 = .ok (.iaload, 1) := by decide +kernel
theorem dX7_about_78 : decode cX7_about 78 = .ok (.ireturn, 1) := by decide +kernel
theorem dX7_about_79 : decode cX7_about 79 = .ok (.aload_n 0, 1) := by decide +kernel
theorem dX7_about_80 : decode cX7_about 80 = .ok (.getfield 22, 3) := by decide +kernel
theorem dX7_about_83 : decode cX7_about 83 = .ok (.iconst 2, 1) := by decide +kernel
theorem dX7_about_84 : decode cX7_about 84 = .ok (.iaload, 1) := by decide +kernel
theorem dX7_about_85 : decode cX7_about 85 = .ok (.ireturn, 1) := by decide +kernel
theorem dX7_about_86 : decode cX7_about 86 = .ok (.aload_n 0, 1) := by decide +kernel
theorem dX7_about_87 : decode cX7_about 87 = .ok (.getfield 22, 3) := by decide +kernel
theorem dX7_about_90 : decode cX7_about 90 = .ok (.iconst 3, 1) := by decide +kernel
theorem dX7_about_91 : decode cX7_about 91 = .ok (.iaload, 1) := by decide +kernel
theorem dX7_about_92 : decode cX7_about 92 = .ok (.ireturn, 1) := by decide +kernel
theorem dX7_about_93 : decode cX7_about 93 = .ok (.aload_n 0, 1) := by decide +kernel
theorem dX7_about_94 : decode cX7_about 94 = .ok (.getfield 22, 3) := by decide +kernel
theorem dX7_about_97 : decode cX7_about 97 = .ok (.iconst 4, 1) := by decide +kernel
theorem dX7_about_98 : decode cX7_about 98 = .ok (.iaload, 1) := by decide +kernel
theorem dX7_about_99 : decode cX7_about 99 = .ok (.ireturn, 1) := by decide +kernel
theorem dX7_about_100 : decode cX7_about 100 = .ok (.aload_n 0, 1) := by decide +kernel
theorem dX7_about_101 : decode cX7_about 101 = .ok (.getfield 22, 3) := by decide +kernel
theorem dX7_about_104 : decode cX7_about 104 = .ok (.iconst 5, 1) := by decide +kernel
theorem dX7_about_105 : decode cX7_about 105 = .ok (.iaload, 1) := by decide +kernel
theorem dX7_about_106 : decode cX7_about 106 = .ok (.ireturn, 1) := by decide +kernel
theorem dX7_about_107 : decode cX7_about 107 = .ok (.aload_n 0, 1) := by decide +kernel
theorem dX7_about_108 : decode cX7_about 108 = .ok (.getfield 95, 3) := by decide +kernel
theorem dX7_about_111 : decode cX7_about 111 = .ok (.ireturn, 1) := by decide +kernel
theorem dX7_about_112 : decode cX7_about 112 = .ok (.aload_n 0, 1) := by decide +kernel
theorem dX7_about_113 : decode cX7_about 113 = .ok (.getfield 106, 3) := by decide +kernel
theorem dX7_about_116 : decode cX7_about 116 = .ok (.ireturn, 1) := by decide +kernel
theorem dX7_about_117 : decode cX7_about 117 = .ok (.aload_n 0, 1) := by decide +kernel
theorem dX7_about_118 : decode cX7_about 118 = .ok (.getfield 72, 3) := by decide +kernel
theorem dX7_about_121 : decode cX7_about 121 = .ok (.ireturn, 1) := by decide +kernel
theorem dX7_about_122 : decode cX7_about 122 = .ok (.bipush (-2), 2) := by decide +kernel
theorem dX7_about_124 : decode cX7_about 124 = .ok (.ireturn, 1) := by decide +kernel
theorem dX7_house_0 : decode cX7_house 0 = .ok (.aload_n 0, 1) := by decide +kernel
theorem dX7_house_1 : decode cX7_house 1 = .ok (.iconst 0, 1) := by decide +kernel
theorem dX7_house_2 : decode cX7_house 2 = .ok (.putfield 59, 3) := by decide +kernel
theorem dX7_house_5 : decode cX7_house 5 = .ok (.aload_n 0, 1) := by decide +kernel
theorem dX7_house_6 : decode cX7_house 6 = .ok (.iload_n 1, 1) := by decide +kernel
theorem dX7_house_7 : decode cX7_house 7 = .ok (.invokevirtual 109, 3) := by decide +kernel
theorem dX7_house_10 : decode cX7_house 10 = .ok (.ifCond .eq 5, 3) := by decide +kernel
theorem dX7_house_13 : decode cX7_house 13 = .ok (.iconst (-1), 1) := by decide +kernel
theorem dX7_house_14 : decode cX7_house 14 = .ok (.ireturn, 1) := by decide +kernel
theorem dX7_house_15 : decode cX7_house 15 = .ok (.iload_n 2, 1) := by decide +kernel
theorem dX7_house_16 : decode cX7_house 16 = .ok (.ifCond .ne 10, 3) := by decide +kernel
theorem dX7_house_19 : decode cX7_house 19 = .ok (.aload_n 0, 1) := by decide +kernel
theorem dX7_house_20 : decode cX7_house 20 = .ok (.getfield 13, 3) := by decide +kernel
theorem dX7_house_23 : decode cX7_house 23 = .ok (.iload_n 1, 1) := by decide +kernel
theorem dX7_house_24 : decode cX7_house 24 = .ok (.iaload, 1) := by decide +kernel
theorem dX7_house_25 : decode cX7_house 25 = .ok (.ireturn, 1) := by decide +kernel
theorem dX7_house_26 : decode cX7_house 26 = .ok (.iload_n 2, 1) := by decide +kernel
theorem dX7_house_27 : decode cX7_house 27 = .ok (.i2l, 1) := by decide +kernel
theorem dX7_house_28 : decode cX7_house 28 = .ok (.lconst 1, 1) := by decide +kernel
theorem dX7_house_29 : decode cX7_house 29 = .ok (.ldc2_w 113, 3) := by decide +kernel
theorem dX7_house_32 : decode cX7_house 32 = .ok (.invokestatic 66, 3) := by decide +kernel
theorem dX7_house_35 : decode cX7_house 35 = .ok (.ifCond .eq 18, 3) := by decide +kernel
theorem dX7_house_38 : decode cX7_house 38 = .ok (.aload_n 0, 1) := by decide +kernel
theorem dX7_house_39 : decode cX7_house 39 = .ok (.getfield 16, 3) := by decide +kernel
theorem dX7_house_42 : decode cX7_house 42 = .ok (.iconst 3, 1) := by decide +kernel
theorem dX7_house_43 : decode cX7_house 43 = .ok (.iload_n 1, 1) := by decide +kernel
theorem dX7_house_44 : decode cX7_house 44 = .ok (.imul, 1) := by decide +kernel
theorem dX7_house_45 : decode cX7_house 45 = .ok (.iload_n 2, 1) := by decide +kernel
theorem dX7_house_46 : decode cX7_house 46 = .ok (.iadd, 1) := by decide +kernel
theorem dX7_house_47 : decode cX7_house 47 = .ok (.iconst 1, 1) := by decide +kernel
theorem dX7_house_48 : decode cX7_house 48 = .ok (.isub, 1) := by decide +kernel
theorem dX7_house_49 : decode cX7_house 49 = .ok (.iaload, 1) := by decide +kernel
theorem dX7_house_50 : decode cX7_house 50 = .ok (.goto 22, 3) := by decide +kernel
theorem dX7_house_53 : decode cX7_house 53 = .ok (.iload_n 2, 1) := by decide +kernel
theorem dX7_house_54 : decode cX7_house 54 = .ok (.iconst 4, 1) := by decide +kernel
theorem dX7_house_55 : decode cX7_house 55 = .ok (.if_icmp .ne 15, 3) := by decide +kernel
theorem dX7_house_58 : decode cX7_house 58 = .ok (.aload_n 0, 1) := by decide +kernel
theorem dX7_house_59 : decode cX7_house 59 = .ok (.getfield 22, 3) := by decide +kernel
theorem dX7_house_62 : decode cX7_house 62 = .ok (.bipush 6, 2) := by decide +kernel
theorem dX7_house_64 : decode cX7_house 64 = .ok (.iload_n 1, 1) := by decide +kernel
theorem dX7_house_65 : decode cX7_house 65 = .ok (.iadd, 1) := by decide +kernel
theorem dX7_house_66 : decode cX7_house 66 = .ok (.iaload, 1) := by decide +kernel
theorem dX7_house_67 : decode cX7_house 67 = .ok (.goto 5, 3) := by decide +kernel
theorem dX7_house_70 : decode cX7_house 70 = .ok (.bipush (-2), 2) := by decide +kernel
theorem dX7_house_72 : decode cX7_house 72 = .ok (.ireturn, 1) := by decide +kernel
theorem dX7_sight_0 : decode cX7_sight 0 = .ok (.aload_n 0, 1) := by decide +kernel
theorem dX7_sight_1 : decode cX7_sight 1 = .ok (.iconst 0, 1) := by decide +kernel
theorem dX7_sight_2 : decode cX7_sight 2 = .ok (.putfield 59, 3) := by decide +kernel
theorem dX7_sight_5 : decode cX7_sight 5 = .ok (.aload_n 0, 1) := by decide +kernel
theorem dX7_sight_6 : decode cX7_sight 6 = .ok (.iload_n 1, 1) := by decide +kernel
theorem dX7_sight_7 : decode cX7_sight 7 = .ok (.invokevirtual 109, 3) := by decide +kernel
theorem dX7_sight_10 : decode cX7_sight 10 = .ok (.ifCond .eq 5, 3) := by decide +kernel
theorem dX7_sight_13 : decode cX7_sight 13 = .ok (.iconst (-1), 1) := by decide +kernel
theorem dX7_sight_14 : decode cX7_sight 14 = .ok (.ireturn, 1) := by decide +kernel
theorem dX7_sight_15 : decode cX7_sight 15 = .ok (.iload_n 2, 1) := by decide +kernel
theorem dX7_sight_16 : decode cX7_sight 16 = .ok (.i2l, 1) := by decide +kernel
theorem dX7_sight_17 : decode cX7_sight 17 = .ok (.lconst 0, 1) := by decide +kernel
theorem dX7_sight_18 : decode cX7_sight 18 = .ok (.ldc2_w 115, 3) := by decide +kernel
theorem dX7_sight_21 : decode cX7_sight 21 = .ok (.invokestatic 66, 3) := by decide +kernel
theorem dX7_sight_24 : decode cX7_sight 24 = .ok (.ifCond .eq 16, 3) := by decide +kernel
theorem dX7_sight_27 : decode cX7_sight 27 = .ok (.aload_n 0, 1) := by decide +kernel
theorem dX7_sight_28 : decode cX7_sight 28 = .ok (.aload_n 0, 1) := by decide +kernel
theorem dX7_sight_29 : decode cX7_sight 29 = .ok (.getfield 22, 3) := by decide +kernel
theorem dX7_sight_32 : decode cX7_sight 32 = .ok (.iload_n 1, 1) := by decide +kernel
theorem dX7_sight_33 : decode cX7_sight 33 = .ok (.iload_n 2, 1) := by decide +kernel
theorem dX7_sight_34 : decode cX7_sight 34 = .ok (.invokevirtual 117, 3) := by decide +kernel
theorem dX7_sight_37 : decode cX7_sight 37 = .ok (.goto 5, 3) := by decide +kernel
theorem dX7_sight_40 : decode cX7_sight 40 = .ok (.bipush (-2), 2) := by decide +kernel
theorem dX7_sight_42 : decode cX7_sight 42 = .ok (.ireturn, 1) := by decide +kernel
theorem dX7_note_0 : decode cX7_note 0 = .ok (.aload_n 0, 1) := by decide +kernel
theorem dX7_note_1 : decode cX7_note 1 = .ok (.getfield 95, 3) := by decide +kernel
theorem dX7_note_4 : decode cX7_note 4 = .ok (.bipush 14, 2) := by decide +kernel
theorem dX7_note_6 : decode cX7_note 6 = .ok (.if_icmp .ne 43, 3) := by decide +kernel
theorem dX7_note_9 : decode cX7_note 9 = .ok (.iconst 0, 1) := by decide +kernel
theorem dX7_note_10 : decode cX7_note 10 = .ok (.istore_n 1, 1) := by decide +kernel
theorem dX7_note_11 : decode cX7_note 11 = .ok (.iload_n 1, 1) := by decide +kernel
theorem dX7_note_12 : decode cX7_note 12 = .ok (.sipush 156, 3) := by decide +kernel
theorem dX7_note_15 : decode cX7_note 15 = .ok (.if_icmp .ge 24, 3) := by decide +kernel
theorem dX7_note_18 : decode cX7_note 18 = .ok (.aload_n 0, 1) := by decide +kernel
theorem dX7_note_19 : decode cX7_note 19 = .ok (.getfield 31, 3) := by decide +kernel
theorem dX7_note_22 : decode cX7_note 22 = .ok (.iload_n 1, 1) := by decide +kernel
theorem dX7_note_23 : decode cX7_note 23 = .ok (.aload_n 0, 1) := by decide +kernel
theorem dX7_note_24 : decode cX7_note 24 = .ok (.getfield 31, 3) := by decide +kernel
theorem dX7_note_27 : decode cX7_note 27 = .ok (.iload_n 1, 1) := by decide +kernel
theorem dX7_note_28 : decode cX7_note 28 = .ok (.bipush 12, 2) := by decide +kernel
theorem dX7_note_30 : decode cX7_note 30 = .ok (.iadd, 1) := by decide +kernel
theorem dX7_note_31 : decode cX7_note 31 = .ok (.iaload, 1) := by decide +kernel
theorem dX7_note_32 : decode cX7_note 32 = .ok (.iastore, 1) := by decide +kernel
theorem dX7_note_33 : decode cX7_note 33 = .ok (.iinc 1 1, 3) := by decide +kernel
theorem dX7_note_36 : decode cX7_note 36 = .ok (.goto (-25), 3) := by decide +kernel
theorem dX7_note_39 : decode cX7_note 39 = .ok (.aload_n 0, 1) := by decide +kernel
theorem dX7_note_40 : decode cX7_note 40 = .ok (.dup, 1) := by decide +kernel
theorem dX7_note_41 : decode cX7_note 41 = .ok (.getfield 95, 3) := by decide +kernel
theorem dX7_note_44 : decode cX7_note 44 = .ok (.iconst 1, 1) := by decide +kernel
theorem dX7_note_45 : decode cX7_note 45 = .ok (.isub, 1) := by decide +kernel
theorem dX7_note_46 : decode cX7_note 46 = .ok (.putfield 95, 3) := by decide +kernel
theorem dX7_note_49 : decode cX7_note 49 = .ok (.iconst 0, 1) := by decide +kernel
theorem dX7_note_50 : decode cX7_note 50 = .ok (.istore_n 1, 1) := by decide +kernel
theorem dX7_note_51 : decode cX7_note 51 = .ok (.iload_n 1, 1) := by decide +kernel
theorem dX7_note_52 : decode cX7_note 52 = .ok (.bipush 12, 2) := by decide +kernel
theorem dX7_note_54 : decode cX7_note 54 = .ok (.if_icmp .ge 29, 3) := by decide +kernel
theorem dX7_note_57 : decode cX7_note 57 = .ok (.aload_n 0, 1) := by decide +kernel
theorem dX7_note_58 : decode cX7_note 58 = .ok (.getfield 31, 3) := by decide +kernel
theorem dX7_note_61 : decode cX7_note 61 = .ok (.bipush 12, 2) := by decide +kernel
theorem dX7_note_63 : decode cX7_note 63 = .ok (.aload_n 0, 1) := by decide +kernel
theorem dX7_note_64 : decode cX7_note 64 = .ok (.getfield 95, 3) := by decide +kernel
theorem dX7_note_67 : decode cX7_note 67 = .ok (.imul, 1) := by decide +kernel
theorem dX7_note_68 : decode cX7_note 68 = .ok (.iload_n 1, 1) := by decide +kernel
theorem dX7_note_69 : decode cX7_note 69 = .ok (.iadd, 1) := by decide +kernel
theorem dX7_note_70 : decode cX7_note 70 = .ok (.aload_n 0, 1) := by decide +kernel
theorem dX7_note_71 : decode cX7_note 71 = .ok (.getfield 22, 3) := by decide +kernel
theorem dX7_note_74 : decode cX7_note 74 = .ok (.iload_n 1, 1) := by decide +kernel
theorem dX7_note_75 : decode cX7_note 75 = .ok (.iaload, 1) := by decide +kernel
theorem dX7_note_76 : decode cX7_note 76 = .ok (.iastore, 1) := by decide +kernel
theorem dX7_note_77 : decode cX7_note 77 = .ok (.iinc 1 1, 3) := by decide +kernel
theorem dX7_note_80 : decode cX7_note 80 = .ok (.goto (-29), 3) := by decide +kernel
theorem dX7_note_83 : decode cX7_note 83 = .ok (.aload_n 0, 1) := by decide +kernel
theorem dX7_note_84 : decode cX7_note 84 = .ok (.dup, 1) := by decide +kernel
theorem dX7_note_85 : decode cX7_note 85 = .ok (.getfield 95, 3) := by decide +kernel
theorem dX7_note_88 : decode cX7_note 88 = .ok (.iconst 1, 1) := by decide +kernel
theorem dX7_note_89 : decode cX7_note 89 = .ok (.iadd, 1) := by decide +kernel
theorem dX7_note_90 : decode cX7_note 90 = .ok (.putfield 95, 3) := by decide +kernel
theorem dX7_note_93 : decode cX7_note 93 = .ok (.return_, 1) := by decide +kernel
theorem dX7_can_0 : decode cX7_can 0 = .ok (.iload_n 2, 1) := by decide +kernel
theorem dX7_can_1 : decode cX7_can 1 = .ok (.ifCond .ne 15, 3) := by decide +kernel
theorem dX7_can_4 : decode cX7_can 4 = .ok (.aload_n 1, 1) := by decide +kernel
theorem dX7_can_5 : decode cX7_can 5 = .ok (.iconst 0, 1) := by decide +kernel
theorem dX7_can_6 : decode cX7_can 6 = .ok (.iaload, 1) := by decide +kernel
theorem dX7_can_7 : decode cX7_can 7 = .ok (.ifCond .le 7, 3) := by decide +kernel
theorem dX7_can_10 : decode cX7_can 10 = .ok (.iconst 1, 1) := by decide +kernel
theorem dX7_can_11 : decode cX7_can 11 = .ok (.goto 4, 3) := by decide +kernel
theorem dX7_can_14 : decode cX7_can 14 = .ok (.iconst 0, 1) := by decide +kernel
theorem dX7_can_15 : decode cX7_can 15 = .ok (.ireturn, 1) := by decide +kernel
theorem dX7_can_16 : decode cX7_can 16 = .ok (.iload_n 2, 1) := by decide +kernel
theorem dX7_can_17 : decode cX7_can 17 = .ok (.iconst 1, 1) := by decide +kernel
theorem dX7_can_18 : decode cX7_can 18 = .ok (.if_icmp .ne 21, 3) := by decide +kernel
theorem dX7_can_21 : decode cX7_can 21 = .ok (.aload_n 1, 1) := by decide +kernel
theorem dX7_can_22 : decode cX7_can 22 = .ok (.iconst 0, 1) := by decide +kernel
theorem dX7_can_23 : decode cX7_can 23 = .ok (.iaload, 1) := by decide +kernel
theorem dX7_can_24 : decode cX7_can 24 = .ok (.iconst 1, 1) := by decide +kernel
theorem dX7_can_25 : decode cX7_can 25 = .ok (.iadd, 1) := by decide +kernel
theorem dX7_can_26 : decode cX7_can 26 = .ok (.aload_n 0, 1) := by decide +kernel
theorem dX7_can_27 : decode cX7_can 27 = .ok (.getfield 63, 3) := by decide +kernel
theorem dX7_can_30 : decode cX7_can 30 = .ok (.if_icmp .ge 7, 3) := by decide +kernel
theorem dX7_can_33 : decode cX7_can 33 = .ok (.iconst 1, 1) := by decide +kernel
theorem dX7_can_34 : decode cX7_can 34 = .ok (.goto 4, 3) := by decide +kernel
theorem dX7_can_37 : decode cX7_can 37 = .ok (.iconst 0, 1) := by decide +kernel
theorem dX7_can_38 : decode cX7_can 38 = .ok (.ireturn, 1) := by decide +kernel
theorem dX7_can_39 : decode cX7_can 39 = .ok (.iload_n 2, 1) := by decide +kernel
theorem dX7_can_40 : decode cX7_can 40 = .ok (.iconst 3, 1) := by decide +kernel
theorem dX7_can_41 : decode cX7_can 41 = .ok (.if_icmp .eq 16, 3) := by decide +kernel
theorem dX7_can_44 : decode cX7_can 44 = .ok (.aload_n 0, 1) := by decide +kernel
theorem dX7_can_45 : decode cX7_can 45 = .ok (.getfield 63, 3) := by decide +kernel
theorem dX7_can_48 : decode cX7_can 48 = .ok (.ifCond .le 13, 3) := by decide +kernel
theorem dX7_can_51 : decode cX7_can 51 = .ok (.aload_n 1, 1) := by decide +kernel
theorem dX7_can_52 : decode cX7_can 52 = .ok (.iconst 1, 1) := by decide +kernel
theorem dX7_can_53 : decode cX7_can 53 = .ok (.iaload, 1) := by decide +kernel
theorem dX7_can_54 : decode cX7_can 54 = .ok (.ifCond .le 7, 3) := by decide +kernel
theorem dX7_can_57 : decode cX7_can 57 = .ok (.iconst 1, 1) := by decide +kernel
theorem dX7_can_58 : decode cX7_can 58 = .ok (.goto 4, 3) := by decide +kernel
theorem dX7_can_61 : decode cX7_can 61 = .ok (.iconst 0, 1) := by decide +kernel
theorem dX7_can_62 : decode cX7_can 62 = .ok (.ireturn, 1) := by decide +kernel
theorem dX7_go_0 : decode cX7_go 0 = .ok (.iconst 0, 1) := by decide +kernel
theorem dX7_go_1 : decode cX7_go 1 = .ok (.istore_n 3, 1) := by decide +kernel
theorem dX7_go_2 : decode cX7_go 2 = .ok (.iload_n 2, 1) := by decide +kernel
theorem dX7_go_3 : decode cX7_go 3 = .ok (.iconst 2, 1) := by decide +kernel
theorem dX7_go_4 : decode cX7_go 4 = .ok (.if_icmp .ge 18, 3) := by decide +kernel
theorem dX7_go_7 : decode cX7_go 7 = .ok (.aload_n 1, 1) := by decide +kernel
theorem dX7_go_8 : decode cX7_go 8 = .ok (.iconst 0, 1) := by decide +kernel
theorem dX7_go_9 : decode cX7_go 9 = .ok (.dup2, 1) := by decide +kernel
theorem dX7_go_10 : decode cX7_go 10 = .ok (.iaload, 1) := by decide +kernel
theorem dX7_go_11 : decode cX7_go 11 = .ok (.iload_n 2, 1) := by decide +kernel
theorem dX7_go_12 : decode cX7_go 12 = .ok (.ifCond .ne 7, 3) := by decide +kernel
theorem dX7_go_15 : decode cX7_go 15 = .ok (.iconst (-1), 1) := by decide +kernel
theorem dX7_go_16 : decode cX7_go 16 = .ok (.goto 4, 3) := by decide +kernel
theorem dX7_go_19 : decode cX7_go 19 = .ok (.iconst 1, 1) := by decide +kernel
theorem dX7_go_20 : decode cX7_go 20 = .ok (.iadd, 1) := by decide +kernel
theorem dX7_go_21 : decode cX7_go 21 = .ok (.iastore, 1) := by decide +kernel
theorem dX7_go_22 : decode cX7_go 22 = .ok (.iload_n 2, 1) := by decide +kernel
theorem dX7_go_23 : decode cX7_go 23 = .ok (.iconst 2, 1) := by decide +kernel
theorem dX7_go_24 : decode cX7_go 24 = .ok (.if_icmp .ne 71, 3) := by decide +kernel
theorem dX7_go_27 : decode cX7_go 27 = .ok (.aload_n 1, 1) := by decide +kernel
theorem dX7_go_28 : decode cX7_go 28 = .ok (.iconst 0, 1) := by decide +kernel
theorem dX7_go_29 : decode cX7_go 29 = .ok (.iaload, 1) := by decide +kernel
theorem dX7_go_30 : decode cX7_go 30 = .ok (.istore 4, 2) := by decide +kernel
theorem dX7_go_32 : decode cX7_go 32 = .ok (.iconst 1, 1) := by decide +kernel
theorem dX7_go_33 : decode cX7_go 33 = .ok (.aload_n 1, 1) := by decide +kernel
theorem dX7_go_34 : decode cX7_go 34 = .ok (.iconst 2, 1) := by decide +kernel
theorem dX7_go_35 : decode cX7_go 35 = .ok (.iaload, 1) := by decide +kernel
theorem dX7_go_36 : decode cX7_go 36 = .ok (.iconst 3, 1) := by decide +kernel
theorem dX7_go_37 : decode cX7_go 37 = .ok (.irem, 1) := by decide +kernel
theorem dX7_go_38 : decode cX7_go 38 = .ok (.ishl, 1) := by decide +kernel
theorem dX7_go_39 : decode cX7_go 39 = .ok (.istore 5, 2) := by decide +kernel
theorem dX7_go_41 : decode cX7_go 41 = .ok (.aload_n 1, 1) := by decide +kernel
theorem dX7_go_42 : decode cX7_go 42 = .ok (.bipush 6, 2) := by decide +kernel
theorem dX7_go_44 : decode cX7_go 44 = .ok (.iload 4, 2) := by decide +kernel
theorem dX7_go_46 : decode cX7_go 46 = .ok (.iadd, 1) := by decide +kernel
theorem dX7_go_47 : decode cX7_go 47 = .ok (.iaload, 1) := by decide +kernel
theorem dX7_go_48 : decode cX7_go 48 = .ok (.iload 5, 2) := by decide +kernel
theorem dX7_go_50 : decode cX7_go 50 = .ok (.iand, 1) := by decide +kernel
theorem dX7_go_51 : decode cX7_go 51 = .ok (.ifCond .ne 16, 3) := by decide +kernel
theorem dX7_go_54 : decode cX7_go 54 = .ok (.aload_n 0, 1) := by decide +kernel
theorem dX7_go_55 : decode cX7_go 55 = .ok (.aload_n 1, 1) := by decide +kernel
theorem dX7_go_56 : decode cX7_go 56 = .ok (.iload 4, 2) := by decide +kernel
theorem dX7_go_58 : decode cX7_go 58 = .ok (.aload_n 1, 1) := by decide +kernel
theorem dX7_go_59 : decode cX7_go 59 = .ok (.iconst 2, 1) := by decide +kernel
theorem dX7_go_60 : decode cX7_go 60 = .ok (.iaload, 1) := by decide +kernel
theorem dX7_go_61 : decode cX7_go 61 = .ok (.invokevirtual 117, 3) := by decide +kernel
theorem dX7_go_64 : decode cX7_go 64 = .ok (.goto 4, 3) := by decide +kernel
theorem dX7_go_67 : decode cX7_go 67 = .ok (.iconst 0, 1) := by decide +kernel
theorem dX7_go_68 : decode cX7_go 68 = .ok (.istore_n 3, 1) := by decide +kernel
theorem dX7_go_69 : decode cX7_go 69 = .ok (.aload_n 1, 1) := by decide +kernel
theorem dX7_go_70 : decode cX7_go 70 = .ok (.bipush 6, 2) := by decide +kernel
theorem dX7_go_72 : decode cX7_go 72 = .ok (.iload 4, 2) := by decide +kernel
theorem dX7_go_74 : decode cX7_go 74 = .ok (.iadd, 1) := by decide +kernel
theorem dX7_go_75 : decode cX7_go 75 = .ok (.dup2, 1) := by decide +kernel
theorem dX7_go_76 : decode cX7_go 76 = .ok (.iaload, 1) := by decide +kernel
theorem dX7_go_77 : decode cX7_go 77 = .ok (.iload 5, 2) := by decide +kernel
theorem dX7_go_79 : decode cX7_go 79 = .ok (.ior, 1) := by decide +kernel
theorem dX7_go_80 : decode cX7_go 80 = .ok (.iastore, 1) := by decide +kernel
theorem dX7_go_81 : decode cX7_go 81 = .ok (.aload_n 1, 1) := by decide +kernel
theorem dX7_go_82 : decode cX7_go 82 = .ok (.iconst 1, 1) := by decide +kernel
theorem dX7_go_83 : decode cX7_go 83 = .ok (.dup2, 1) := by decide +kernel
theorem dX7_go_84 : decode cX7_go 84 = .ok (.iaload, 1) := by decide +kernel
theorem dX7_go_85 : decode cX7_go 85 = .ok (.iconst 1, 1) := by decide +kernel
theorem dX7_go_86 : decode cX7_go 86 = .ok (.isub, 1) := by decide +kernel
theorem dX7_go_87 : decode cX7_go 87 = .ok (.iastore, 1) := by decide +kernel
theorem dX7_go_88 : decode cX7_go 88 = .ok (.aload_n 1, 1) := by decide +kernel
theorem dX7_go_89 : decode cX7_go 89 = .ok (.iconst 3, 1) := by decide +kernel
theorem dX7_go_90 : decode cX7_go 90 = .ok (.dup2, 1) := by decide +kernel
theorem dX7_go_91 : decode cX7_go 91 = .ok (.iaload, 1) := by decide +kernel
theorem dX7_go_92 : decode cX7_go 92 = .ok (.iload_n 3, 1) := by decide +kernel
theorem dX7_go_93 : decode cX7_go 93 = .ok (.iadd, 1) := by decide +kernel
theorem dX7_go_94 : decode cX7_go 94 = .ok (.iastore, 1) := by decide +kernel
theorem dX7_go_95 : decode cX7_go 95 = .ok (.aload_n 1, 1) := by decide +kernel
theorem dX7_go_96 : decode cX7_go 96 = .ok (.iconst 2, 1) := by decide +kernel
theorem dX7_go_97 : decode cX7_go 97 = .ok (.dup2, 1) := by decide +kernel
theorem dX7_go_98 : decode cX7_go 98 = .ok (.iaload, 1) := by decide +kernel
theorem dX7_go_99 : decode cX7_go 99 = .ok (.iconst 1, 1) := by decide +kernel
theorem dX7_go_100 : decode cX7_go 100 = .ok (.iadd, 1) := by decide +kernel
theorem dX7_go_101 : decode cX7_go 101 = .ok (.iastore, 1) := by decide +kernel
theorem dX7_go_102 : decode cX7_go 102 = .ok (.iload_n 3, 1) := by decide +kernel
theorem dX7_go_103 : decode cX7_go 103 = .ok (.ireturn, 1) := by decide +kernel
theorem dX7_walk_0 : decode cX7_walk 0 = .ok (.aload_n 0, 1) := by decide +kernel
theorem dX7_walk_1 : decode cX7_walk 1 = .ok (.iconst 0, 1) := by decide +kernel
theorem dX7_walk_2 : decode cX7_walk 2 = .ok (.putfield 59, 3) := by decide +kernel
theorem dX7_walk_5 : decode cX7_walk 5 = .ok (.iload_n 1, 1) := by decide +kernel
theorem dX7_walk_6 : decode cX7_walk 6 = .ok (.i2l, 1) := by decide +kernel
theorem dX7_walk_7 : decode cX7_walk 7 = .ok (.lconst 0, 1) := by decide +kernel
theorem dX7_walk_8 : decode cX7_walk 8 = .ok (.lconst 1, 1) := by decide +kernel
theorem dX7_walk_9 : decode cX7_walk 9 = .ok (.invokestatic 66, 3) := by decide +kernel
theorem dX7_walk_12 : decode cX7_walk 12 = .ok (.ifCond .ne 6, 3) := by decide +kernel
theorem dX7_walk_15 : decode cX7_walk 15 = .ok (.bipush (-2), 2) := by decide +kernel
theorem dX7_walk_17 : decode cX7_walk 17 = .ok (.ireturn, 1) := by decide +kernel
theorem dX7_walk_18 : decode cX7_walk 18 = .ok (.aload_n 0, 1) := by decide +kernel
theorem dX7_walk_19 : decode cX7_walk 19 = .ok (.aload_n 0, 1) := by decide +kernel
theorem dX7_walk_20 : decode cX7_walk 20 = .ok (.getfield 22, 3) := by decide +kernel
theorem dX7_walk_23 : decode cX7_walk 23 = .ok (.iload_n 1, 1) := by decide +kernel
theorem dX7_walk_24 : decode cX7_walk 24 = .ok (.invokevirtual 121, 3) := by decide +kernel
theorem dX7_walk_27 : decode cX7_walk 27 = .ok (.ifCond .ne 6, 3) := by decide +kernel
theorem dX7_walk_30 : decode cX7_walk 30 = .ok (.bipush (-3), 2) := by decide +kernel
theorem dX7_walk_32 : decode cX7_walk 32 = .ok (.ireturn, 1) := by decide +kernel
theorem dX7_walk_33 : decode cX7_walk 33 = .ok (.aload_n 0, 1) := by decide +kernel
theorem dX7_walk_34 : decode cX7_walk 34 = .ok (.invokevirtual 125, 3) := by decide +kernel
theorem dX7_walk_37 : decode cX7_walk 37 = .ok (.aload_n 0, 1) := by decide +kernel
theorem dX7_walk_38 : decode cX7_walk 38 = .ok (.aload_n 0, 1) := by decide +kernel
theorem dX7_walk_39 : decode cX7_walk 39 = .ok (.getfield 22, 3) := by decide +kernel
theorem dX7_walk_42 : decode cX7_walk 42 = .ok (.iload_n 1, 1) := by decide +kernel
theorem dX7_walk_43 : decode cX7_walk 43 = .ok (.invokevirtual 128, 3) := by decide +kernel
theorem dX7_walk_46 : decode cX7_walk 46 = .ok (.pop, 1) := by decide +kernel
theorem dX7_walk_47 : decode cX7_walk 47 = .ok (.aload_n 0, 1) := by decide +kernel
theorem dX7_walk_48 : decode cX7_walk 48 = .ok (.getfield 22, 3) := by decide +kernel
theorem dX7_walk_51 : decode cX7_walk 51 = .ok (.iconst 0, 1) := by decide +kernel
theorem dX7_walk_52 : decode cX7_walk 52 = .ok (.iaload, 1) := by decide +kernel
theorem dX7_walk_53 : decode cX7_walk 53 = .ok (.ireturn, 1) := by decide +kernel
theorem dX7_look_0 : decode cX7_look 0 = .ok (.aload_n 0, 1) := by decide +kernel
theorem dX7_look_1 : decode cX7_look 1 = .ok (.iconst 0, 1) := by decide +kernel
theorem dX7_look_2 : decode cX7_look 2 = .ok (.putfield 59, 3) := by decide +kernel
theorem dX7_look_5 : decode cX7_look 5 = .ok (.aload_n 0, 1) := by decide +kernel
theorem dX7_look_6 : decode cX7_look 6 = .ok (.aload_n 0, 1) := by decide +kernel
theorem dX7_look_7 : decode cX7_look 7 = .ok (.getfield 22, 3) := by decide +kernel
theorem dX7_look_10 : decode cX7_look 10 = .ok (.iconst 2, 1) := by decide +kernel
theorem dX7_look_11 : decode cX7_look 11 = .ok (.invokevirtual 121, 3) := by decide +kernel
theorem dX7_look_14 : decode cX7_look 14 = .ok (.ifCond .ne 6, 3) := by decide +kernel
theorem dX7_look_17 : decode cX7_look 17 = .ok (.bipush (-3), 2) := by decide +kernel
theorem dX7_look_19 : decode cX7_look 19 = .ok (.ireturn, 1) := by decide +kernel
theorem dX7_look_20 : decode cX7_look 20 = .ok (.aload_n 0, 1) := by decide +kernel
theorem dX7_look_21 : decode cX7_look 21 = .ok (.invokevirtual 125, 3) := by decide +kernel
theorem dX7_look_24 : decode cX7_look 24 = .ok (.aload_n 0, 1) := by decide +kernel
theorem dX7_look_25 : decode cX7_look 25 = .ok (.aload_n 0, 1) := by decide +kernel
theorem dX7_look_26 : decode cX7_look 26 = .ok (.getfield 22, 3) := by decide +kernel
theorem dX7_look_29 : decode cX7_look 29 = .ok (.iconst 2, 1) := by decide +kernel
theorem dX7_look_30 : decode cX7_look 30 = .ok (.invokevirtual 128, 3) := by decide +kernel
theorem dX7_look_33 : decode cX7_look 33 = .ok (.ireturn, 1) := by decide +kernel
theorem dX7_pause_0 : decode cX7_pause 0 = .ok (.aload_n 0, 1) := by decide +kernel
theorem dX7_pause_1 : decode cX7_pause 1 = .ok (.iconst 0, 1) := by decide +kernel
theorem dX7_pause_2 : decode cX7_pause 2 = .ok (.putfield 59, 3) := by decide +kernel
theorem dX7_pause_5 : decode cX7_pause 5 = .ok (.aload_n 0, 1) := by decide +kernel
theorem dX7_pause_6 : decode cX7_pause 6 = .ok (.invokevirtual 125, 3) := by decide +kernel
theorem dX7_pause_9 : decode cX7_pause 9 = .ok (.aload_n 0, 1) := by decide +kernel
theorem dX7_pause_10 : decode cX7_pause 10 = .ok (.aload_n 0, 1) := by decide +kernel
theorem dX7_pause_11 : decode cX7_pause 11 = .ok (.getfield 22, 3) := by decide +kernel
theorem dX7_pause_14 : decode cX7_pause 14 = .ok (.iconst 3, 1) := by decide +kernel
theorem dX7_pause_15 : decode cX7_pause 15 = .ok (.invokevirtual 128, 3) := by decide +kernel
theorem dX7_pause_18 : decode cX7_pause 18 = .ok (.pop, 1) := by decide +kernel
theorem dX7_pause_19 : decode cX7_pause 19 = .ok (.aload_n 0, 1) := by decide +kernel
theorem dX7_pause_20 : decode cX7_pause 20 = .ok (.getfield 22, 3) := by decide +kernel
theorem dX7_pause_23 : decode cX7_pause 23 = .ok (.iconst 2, 1) := by decide +kernel
theorem dX7_pause_24 : decode cX7_pause 24 = .ok (.iaload, 1) := by decide +kernel
theorem dX7_pause_25 : decode cX7_pause 25 = .ok (.ireturn, 1) := by decide +kernel
theorem dX7_lamp_0 : decode cX7_lamp 0 = .ok (.aload_n 0, 1) := by decide +kernel
theorem dX7_lamp_1 : decode cX7_lamp 1 = .ok (.iconst 0, 1) := by decide +kernel
theorem dX7_lamp_2 : decode cX7_lamp 2 = .ok (.putfield 59, 3) := by decide +kernel
theorem dX7_lamp_5 : decode cX7_lamp 5 = .ok (.aload_n 0, 1) := by decide +kernel
theorem dX7_lamp_6 : decode cX7_lamp 6 = .ok (.iload_n 1, 1) := by decide +kernel
theorem dX7_lamp_7 : decode cX7_lamp 7 = .ok (.invokevirtual 109, 3) := by decide +kernel
theorem dX7_lamp_10 : decode cX7_lamp 10 = .ok (.ifCond .eq 5, 3) := by decide +kernel
theorem dX7_lamp_13 : decode cX7_lamp 13 = .ok (.iconst (-1), 1) := by decide +kernel
theorem dX7_lamp_14 : decode cX7_lamp 14 = .ok (.ireturn, 1) := by decide +kernel
theorem dX7_lamp_15 : decode cX7_lamp 15 = .ok (.aload_n 0, 1) := by decide +kernel
theorem dX7_lamp_16 : decode cX7_lamp 16 = .ok (.invokevirtual 125, 3) := by decide +kernel
theorem dX7_lamp_19 : decode cX7_lamp 19 = .ok (.aload_n 0, 1) := by decide +kernel
theorem dX7_lamp_20 : decode cX7_lamp 20 = .ok (.getfield 22, 3) := by decide +kernel
theorem dX7_lamp_23 : decode cX7_lamp 23 = .ok (.iconst 4, 1) := by decide +kernel
theorem dX7_lamp_24 : decode cX7_lamp 24 = .ok (.dup2, 1) := by decide +kernel
theorem dX7_lamp_25 : decode cX7_lamp 25 = .ok (.iaload, 1) := by decide +kernel
theorem dX7_lamp_26 : decode cX7_lamp 26 = .ok (.iconst 1, 1) := by decide +kernel
theorem dX7_lamp_27 : decode cX7_lamp 27 = .ok (.iload_n 1, 1) := by decide +kernel
theorem dX7_lamp_28 : decode cX7_lamp 28 = .ok (.ishl, 1) := by decide +kernel
theorem dX7_lamp_29 : decode cX7_lamp 29 = .ok (.ixor, 1) := by decide +kernel
theorem dX7_lamp_30 : decode cX7_lamp 30 = .ok (.iastore, 1) := by decide +kernel
theorem dX7_lamp_31 : decode cX7_lamp 31 = .ok (.aload_n 0, 1) := by decide +kernel
theorem dX7_lamp_32 : decode cX7_lamp 32 = .ok (.getfield 22, 3) := by decide +kernel
theorem dX7_lamp_35 : decode cX7_lamp 35 = .ok (.iconst 4, 1) := by decide +kernel
theorem dX7_lamp_36 : decode cX7_lamp 36 = .ok (.iaload, 1) := by decide +kernel
theorem dX7_lamp_37 : decode cX7_lamp 37 = .ok (.iload_n 1, 1) := by decide +kernel
theorem dX7_lamp_38 : decode cX7_lamp 38 = .ok (.ishr, 1) := by decide +kernel
theorem dX7_lamp_39 : decode cX7_lamp 39 = .ok (.iconst 1, 1) := by decide +kernel
theorem dX7_lamp_40 : decode cX7_lamp 40 = .ok (.iand, 1) := by decide +kernel
theorem dX7_lamp_41 : decode cX7_lamp 41 = .ok (.ireturn, 1) := by decide +kernel
theorem dX7_key_0 : decode cX7_key 0 = .ok (.aload_n 0, 1) := by decide +kernel
theorem dX7_key_1 : decode cX7_key 1 = .ok (.iconst 0, 1) := by decide +kernel
theorem dX7_key_2 : decode cX7_key 2 = .ok (.putfield 59, 3) := by decide +kernel
theorem dX7_key_5 : decode cX7_key 5 = .ok (.aload_n 0, 1) := by decide +kernel
theorem dX7_key_6 : decode cX7_key 6 = .ok (.iload_n 1, 1) := by decide +kernel
theorem dX7_key_7 : decode cX7_key 7 = .ok (.invokevirtual 109, 3) := by decide +kernel
theorem dX7_key_10 : decode cX7_key 10 = .ok (.ifCond .eq 5, 3) := by decide +kernel
theorem dX7_key_13 : decode cX7_key 13 = .ok (.iconst (-1), 1) := by decide +kernel
theorem dX7_key_14 : decode cX7_key 14 = .ok (.ireturn, 1) := by decide +kernel
theorem dX7_key_15 : decode cX7_key 15 = .ok (.aload_n 0, 1) := by decide +kernel
theorem dX7_key_16 : decode cX7_key 16 = .ok (.invokevirtual 125, 3) := by decide +kernel
theorem dX7_key_19 : decode cX7_key 19 = .ok (.aload_n 0, 1) := by decide +kernel
theorem dX7_key_20 : decode cX7_key 20 = .ok (.getfield 22, 3) := by decide +kernel
theorem dX7_key_23 : decode cX7_key 23 = .ok (.iconst 5, 1) := by decide +kernel
theorem dX7_key_24 : decode cX7_key 24 = .ok (.dup2, 1) := by decide +kernel
theorem dX7_key_25 : decode cX7_key 25 = .ok (.iaload, 1) := by decide +kernel
theorem dX7_key_26 : decode cX7_key 26 = .ok (.iconst 1, 1) := by decide +kernel
theorem dX7_key_27 : decode cX7_key 27 = .ok (.iload_n 1, 1) := by decide +kernel
theorem dX7_key_28 : decode cX7_key 28 = .ok (.ishl, 1) := by decide +kernel
theorem dX7_key_29 : decode cX7_key 29 = .ok (.ixor, 1) := by decide +kernel
theorem dX7_key_30 : decode cX7_key 30 = .ok (.iastore, 1) := by decide +kernel
theorem dX7_key_31 : decode cX7_key 31 = .ok (.aload_n 0, 1) := by decide +kernel
theorem dX7_key_32 : decode cX7_key 32 = .ok (.getfield 22, 3) := by decide +kernel
theorem dX7_key_35 : decode cX7_key 35 = .ok (.iconst 5, 1) := by decide +kernel
theorem dX7_key_36 : decode cX7_key 36 = .ok (.iaload, 1) := by decide +kernel
theorem dX7_key_37 : decode cX7_key 37 = .ok (.iload_n 1, 1) := by decide +kernel
theorem dX7_key_38 : decode cX7_key 38 = .ok (.ishr, 1) := by decide +kernel
theorem dX7_key_39 : decode cX7_key 39 = .ok (.iconst 1, 1) := by decide +kernel
theorem dX7_key_40 : decode cX7_key 40 = .ok (.iand, 1) := by decide +kernel
theorem dX7_key_41 : decode cX7_key 41 = .ok (.ireturn, 1) := by decide +kernel
theorem dX7_undo_0 : decode cX7_undo 0 = .ok (.aload_n 0, 1) := by decide +kernel
theorem dX7_undo_1 : decode cX7_undo 1 = .ok (.iconst 0, 1) := by decide +kernel
theorem dX7_undo_2 : decode cX7_undo 2 = .ok (.putfield 59, 3) := by decide +kernel
theorem dX7_undo_5 : decode cX7_undo 5 = .ok (.aload_n 0, 1) := by decide +kernel
theorem dX7_undo_6 : decode cX7_undo 6 = .ok (.getfield 95, 3) := by decide +kernel
theorem dX7_undo_9 : decode cX7_undo 9 = .ok (.ifCond .ne 6, 3) := by decide +kernel
theorem dX7_undo_12 : decode cX7_undo 12 = .ok (.bipush (-3), 2) := by decide +kernel
theorem dX7_undo_14 : decode cX7_undo 14 = .ok (.ireturn, 1) := by decide +kernel
theorem dX7_undo_15 : decode cX7_undo 15 = .ok (.aload_n 0, 1) := by decide +kernel
theorem dX7_undo_16 : decode cX7_undo 16 = .ok (.dup, 1) := by decide +kernel
theorem dX7_undo_17 : decode cX7_undo 17 = .ok (.getfield 95, 3) := by decide +kernel
theorem dX7_undo_20 : decode cX7_undo 20 = .ok (.iconst 1, 1) := by decide +kernel
theorem dX7_undo_21 : decode cX7_undo 21 = .ok (.isub, 1) := by decide +kernel
theorem dX7_undo_22 : decode cX7_undo 22 = .ok (.putfield 95, 3) := by decide +kernel
theorem dX7_undo_25 : decode cX7_undo 25 = .ok (.iconst 0, 1) := by decide +kernel
theorem dX7_undo_26 : decode cX7_undo 26 = .ok (.istore_n 1, 1) := by decide +kernel
theorem dX7_undo_27 : decode cX7_undo 27 = .ok (.iload_n 1, 1) := by decide +kernel
theorem dX7_undo_28 : decode cX7_undo 28 = .ok (.bipush 12, 2) := by decide +kernel
theorem dX7_undo_30 : decode cX7_undo 30 = .ok (.if_icmp .ge 29, 3) := by decide +kernel
theorem dX7_undo_33 : decode cX7_undo 33 = .ok (.aload_n 0, 1) := by decide +kernel
theorem dX7_undo_34 : decode cX7_undo 34 = .ok (.getfield 22, 3) := by decide +kernel
theorem dX7_undo_37 : decode cX7_undo 37 = .ok (.iload_n 1, 1) := by decide +kernel
theorem dX7_undo_38 : decode cX7_undo 38 = .ok (.aload_n 0, 1) := by decide +kernel
theorem dX7_undo_39 : decode cX7_undo 39 = .ok (.getfield 31, 3) := by decide +kernel
theorem dX7_undo_42 : decode cX7_undo 42 = .ok (.bipush 12, 2) := by decide +kernel
theorem dX7_undo_44 : decode cX7_undo 44 = .ok (.aload_n 0, 1) := by decide +kernel
theorem dX7_undo_45 : decode cX7_undo 45 = .ok (.getfield 95, 3) := by decide +kernel
theorem dX7_undo_48 : decode cX7_undo 48 = .ok (.imul, 1) := by decide +kernel
theorem dX7_undo_49 : decode cX7_undo 49 = .ok (.iload_n 1, 1) := by decide +kernel
theorem dX7_undo_50 : decode cX7_undo 50 = .ok (.iadd, 1) := by decide +kernel
theorem dX7_undo_51 : decode cX7_undo 51 = .ok (.iaload, 1) := by decide +kernel
theorem dX7_undo_52 : decode cX7_undo 52 = .ok (.iastore, 1) := by decide +kernel
theorem dX7_undo_53 : decode cX7_undo 53 = .ok (.iinc 1 1, 3) := by decide +kernel
theorem dX7_undo_56 : decode cX7_undo 56 = .ok (.goto (-29), 3) := by decide +kernel
theorem dX7_undo_59 : decode cX7_undo 59 = .ok (.aload_n 0, 1) := by decide +kernel
theorem dX7_undo_60 : decode cX7_undo 60 = .ok (.getfield 95, 3) := by decide +kernel
theorem dX7_undo_63 : decode cX7_undo 63 = .ok (.ireturn, 1) := by decide +kernel
theorem dX7_copy_0 : decode cX7_copy 0 = .ok (.iconst 0, 1) := by decide +kernel
theorem dX7_copy_1 : decode cX7_copy 1 = .ok (.istore_n 2, 1) := by decide +kernel
theorem dX7_copy_2 : decode cX7_copy 2 = .ok (.iload_n 2, 1) := by decide +kernel
theorem dX7_copy_3 : decode cX7_copy 3 = .ok (.bipush 12, 2) := by decide +kernel
theorem dX7_copy_5 : decode cX7_copy 5 = .ok (.if_icmp .ge 15, 3) := by decide +kernel
theorem dX7_copy_8 : decode cX7_copy 8 = .ok (.aload_n 1, 1) := by decide +kernel
theorem dX7_copy_9 : decode cX7_copy 9 = .ok (.iload_n 2, 1) := by decide +kernel
theorem dX7_copy_10 : decode cX7_copy 10 = .ok (.aload_n 0, 1) := by decide +kernel
theorem dX7_copy_11 : decode cX7_copy 11 = .ok (.iload_n 2, 1) := by decide +kernel
theorem dX7_copy_12 : decode cX7_copy 12 = .ok (.iaload, 1) := by decide +kernel
theorem dX7_copy_13 : decode cX7_copy 13 = .ok (.iastore, 1) := by decide +kernel
theorem dX7_copy_14 : decode cX7_copy 14 = .ok (.iinc 2 1, 3) := by decide +kernel
theorem dX7_copy_17 : decode cX7_copy 17 = .ok (.goto (-15), 3) := by decide +kernel
theorem dX7_copy_20 : decode cX7_copy 20 = .ok (.return_, 1) := by decide +kernel
theorem dX7_power_0 : decode cX7_power 0 = .ok (.iconst 1, 1) := by decide +kernel
theorem dX7_power_1 : decode cX7_power 1 = .ok (.istore_n 2, 1) := by decide +kernel
theorem dX7_power_2 : decode cX7_power 2 = .ok (.iconst 0, 1) := by decide +kernel
theorem dX7_power_3 : decode cX7_power 3 = .ok (.istore_n 3, 1) := by decide +kernel
theorem dX7_power_4 : decode cX7_power 4 = .ok (.iload_n 3, 1) := by decide +kernel
theorem dX7_power_5 : decode cX7_power 5 = .ok (.iload_n 1, 1) := by decide +kernel
theorem dX7_power_6 : decode cX7_power 6 = .ok (.if_icmp .ge 13, 3) := by decide +kernel
theorem dX7_power_9 : decode cX7_power 9 = .ok (.iload_n 2, 1) := by decide +kernel
theorem dX7_power_10 : decode cX7_power 10 = .ok (.iload_n 0, 1) := by decide +kernel
theorem dX7_power_11 : decode cX7_power 11 = .ok (.imul, 1) := by decide +kernel
theorem dX7_power_12 : decode cX7_power 12 = .ok (.istore_n 2, 1) := by decide +kernel
theorem dX7_power_13 : decode cX7_power 13 = .ok (.iinc 3 1, 3) := by decide +kernel
theorem dX7_power_16 : decode cX7_power 16 = .ok (.goto (-12), 3) := by decide +kernel
theorem dX7_power_19 : decode cX7_power 19 = .ok (.iload_n 2, 1) := by decide +kernel
theorem dX7_power_20 : decode cX7_power 20 = .ok (.ireturn, 1) := by decide +kernel
theorem dX7_findBest_0 : decode cX7_findBest 0 = .ok (.aload_n 0, 1) := by decide +kernel
theorem dX7_findBest_1 : decode cX7_findBest 1 = .ok (.bipush (-9), 2) := by decide +kernel
theorem dX7_findBest_3 : decode cX7_findBest 3 = .ok (.putfield 132, 3) := by decide +kernel
theorem dX7_findBest_6 : decode cX7_findBest 6 = .ok (.aload_n 0, 1) := by decide +kernel
theorem dX7_findBest_7 : decode cX7_findBest 7 = .ok (.bipush (-9), 2) := by decide +kernel
theorem dX7_findBest_9 : decode cX7_findBest 9 = .ok (.putfield 135, 3) := by decide +kernel
theorem dX7_findBest_12 : decode cX7_findBest 12 = .ok (.iconst 0, 1) := by decide +kernel
theorem dX7_findBest_13 : decode cX7_findBest 13 = .ok (.istore_n 2, 1) := by decide +kernel
theorem dX7_findBest_14 : decode cX7_findBest 14 = .ok (.iload_n 2, 1) := by decide +kernel
theorem dX7_findBest_15 : decode cX7_findBest 15 = .ok (.iconst 4, 1) := by decide +kernel
theorem dX7_findBest_16 : decode cX7_findBest 16 = .ok (.iload_n 1, 1) := by decide +kernel
theorem dX7_findBest_17 : decode cX7_findBest 17 = .ok (.invokestatic 138, 3) := by decide +kernel
theorem dX7_findBest_20 : decode cX7_findBest 20 = .ok (.if_icmp .ge 134, 3) := by decide +kernel
theorem dX7_findBest_23 : decode cX7_findBest 23 = .ok (.aload_n 0, 1) := by decide +kernel
theorem dX7_findBest_24 : decode cX7_findBest 24 = .ok (.getfield 28, 3) := by decide +kernel
theorem dX7_findBest_27 : decode cX7_findBest 27 = .ok (.aload_n 0, 1) := by decide +kernel
theorem dX7_findBest_28 : decode cX7_findBest 28 = .ok (.getfield 25, 3) := by decide +kernel
theorem dX7_findBest_31 : decode cX7_findBest 31 = .ok (.invokestatic 142, 3) := by decide +kernel
theorem dX7_findBest_34 : decode cX7_findBest 34 = .ok (.iconst 1, 1) := by decide +kernel
theorem dX7_findBest_35 : decode cX7_findBest 35 = .ok (.istore_n 3, 1) := by decide +kernel
theorem dX7_findBest_36 : decode cX7_findBest 36 = .ok (.iconst 1, 1) := by decide +kernel
theorem dX7_findBest_37 : decode cX7_findBest 37 = .ok (.istore 4, 2) := by decide +kernel
theorem dX7_findBest_39 : decode cX7_findBest 39 = .ok (.iload_n 1, 1) := by decide +kernel
theorem dX7_findBest_40 : decode cX7_findBest 40 = .ok (.iconst 1, 1) := by decide +kernel
theorem dX7_findBest_41 : decode cX7_findBest 41 = .ok (.isub, 1) := by decide +kernel
theorem dX7_findBest_42 : decode cX7_findBest 42 = .ok (.istore 5, 2) := by decide +kernel
theorem dX7_findBest_44 : decode cX7_findBest 44 = .ok (.iload 5, 2) := by decide +kernel
theorem dX7_findBest_46 : decode cX7_findBest 46 = .ok (.ifCond .lt 62, 3) := by decide +kernel
theorem dX7_findBest_49 : decode cX7_findBest 49 = .ok (.iload 4, 2) := by decide +kernel
theorem dX7_findBest_51 : decode cX7_findBest 51 = .ok (.ifCond .eq 57, 3) := by decide +kernel
theorem dX7_findBest_54 : decode cX7_findBest 54 = .ok (.iload_n 2, 1) := by decide +kernel
theorem dX7_findBest_55 : decode cX7_findBest 55 = .ok (.iconst 4, 1) := by decide +kernel
theorem dX7_findBest_56 : decode cX7_findBest 56 = .ok (.iload 5, 2) := by decide +kernel
theorem dX7_findBest_58 : decode cX7_findBest 58 = .ok (.invokestatic 138, 3) := by decide +kernel
theorem dX7_findBest_61 : decode cX7_findBest 61 = .ok (.idiv, 1) := by decide +kernel
theorem dX7_findBest_62 : decode cX7_findBest 62 = .ok (.iconst 4, 1) := by decide +kernel
theorem dX7_findBest_63 : decode cX7_findBest 63 = .ok (.irem, 1) := by decide +kernel
theorem dX7_findBest_64 : decode cX7_findBest 64 = .ok (.istore 6, 2) := by decide +kernel
theorem dX7_findBest_66 : decode cX7_findBest 66 = .ok (.bipush 10, 2) := by decide +kernel
theorem dX7_findBest_68 : decode cX7_findBest 68 = .ok (.iload_n 3, 1) := by decide +kernel
theorem dX7_findBest_69 : decode cX7_findBest 69 = .ok (.imul, 1) := by decide +kernel
theorem dX7_findBest_70 : decode cX7_findBest 70 = .ok (.iload 6, 2) := by decide +kernel
theorem dX7_findBest_72 : decode cX7_findBest 72 = .ok (.iadd, 1) := by decide +kernel
theorem dX7_findBest_73 : decode cX7_findBest 73 = .ok (.istore_n 3, 1) := by decide +kernel
theorem dX7_findBest_74 : decode cX7_findBest 74 = .ok (.aload_n 0, 1) := by decide +kernel
theorem dX7_findBest_75 : decode cX7_findBest 75 = .ok (.aload_n 0, 1) := by decide +kernel
theorem dX7_findBest_76 : decode cX7_findBest 76 = .ok (.getfield 25, 3) := by decide +kernel
theorem dX7_findBest_79 : decode cX7_findBest 79 = .ok (.iload 6, 2) := by decide +kernel
theorem dX7_findBest_81 : decode cX7_findBest 81 = .ok (.invokevirtual 121, 3) := by decide +kernel
theorem dX7_findBest_84 : decode cX7_findBest 84 = .ok (.istore 4, 2) := by decide +kernel
theorem dX7_findBest_86 : decode cX7_findBest 86 = .ok (.iload 4, 2) := by decide +kernel
theorem dX7_findBest_88 : decode cX7_findBest 88 = .ok (.ifCond .eq 14, 3) := by decide +kernel
theorem dX7_findBest_91 : decode cX7_findBest 91 = .ok (.aload_n 0, 1) := by decide +kernel
theorem dX7_findBest_92 : decode cX7_findBest 92 = .ok (.aload_n 0, 1) := by decide +kernel
theorem dX7_findBest_93 : decode cX7_findBest 93 = .ok (.getfield 25, 3) := by decide +kernel
theorem dX7_findBest_96 : decode cX7_findBest 96 = .ok (.iload 6, 2) := by decide +kernel
theorem dX7_findBest_98 : decode cX7_findBest 98 = .ok (.invokevirtual 128, 3) := by decide +kernel
theorem dX7_findBest_101 : decode cX7_findBest 101 = .ok (.pop, 1) := by decide +kernel
theorem dX7_findBest_102 : decode cX7_findBest 102 = .ok (.iinc 5 (-1), 3) := by decide +kernel
theorem dX7_findBest_105 : decode cX7_findBest 105 = .ok (.goto (-61), 3) := by decide +kernel
theorem dX7_findBest_108 : decode cX7_findBest 108 = .ok (.aload_n 0, 1) := by decide +kernel
theorem dX7_findBest_109 : decode cX7_findBest 109 = .ok (.getfield 25, 3) := by decide +kernel
theorem dX7_findBest_112 : decode cX7_findBest 112 = .ok (.iconst 3, 1) := by decide +kernel
theorem dX7_findBest_113 : decode cX7_findBest 113 = .ok (.iaload, 1) := by decide +kernel
end
section
/-! decode rows -/
theorem dX7_findBest_114 : decode cX7_findBest 114 = .ok (.aload_n 0, 1) := by decide +kernel
theorem dX7_findBest_115 : decode cX7_findBest 115 = .ok (.getfield 28, 3) := by decide +kernel
theorem dX7_findBest_118 : decode cX7_findBest 118 = .ok (.iconst 3, 1) := by decide +kernel
theorem dX7_findBest_119 : decode cX7_findBest 119 = .ok (.iaload, 1) := by decide +kernel
theorem dX7_findBest_120 : decode cX7_findBest 120 = .ok (.isub, 1) := by decide +kernel
theorem dX7_findBest_121 : decode cX7_findBest 121 = .ok (.istore 5, 2) := by decide +kernel
theorem dX7_findBest_123 : decode cX7_findBest 123 = .ok (.iload 4, 2) := by decide +kernel
theorem dX7_findBest_125 : decode cX7_findBest 125 = .ok (.ifCond .eq 23, 3) := by decide +kernel
theorem dX7_findBest_128 : decode cX7_findBest 128 = .ok (.iload 5, 2) := by decide +kernel
theorem dX7_findBest_130 : decode cX7_findBest 130 = .ok (.aload_n 0, 1) := by decide +kernel
theorem dX7_findBest_131 : decode cX7_findBest 131 = .ok (.getfield 132, 3) := by decide +kernel
theorem dX7_findBest_134 : decode cX7_findBest 134 = .ok (.if_icmp .le 14, 3) := by decide +kernel
theorem dX7_findBest_137 : decode cX7_findBest 137 = .ok (.aload_n 0, 1) := by decide +kernel
theorem dX7_findBest_138 : decode cX7_findBest 138 = .ok (.iload 5, 2) := by decide +kernel
theorem dX7_findBest_140 : decode cX7_findBest 140 = .ok (.putfield 132, 3) := by decide +kernel
theorem dX7_findBest_143 : decode cX7_findBest 143 = .ok (.aload_n 0, 1) := by decide +kernel
theorem dX7_findBest_144 : decode cX7_findBest 144 = .ok (.iload_n 3, 1) := by decide +kernel
theorem dX7_findBest_145 : decode cX7_findBest 145 = .ok (.putfield 135, 3) := by decide +kernel
theorem dX7_findBest_148 : decode cX7_findBest 148 = .ok (.iinc 2 1, 3) := by decide +kernel
theorem dX7_findBest_151 : decode cX7_findBest 151 = .ok (.goto (-137), 3) := by decide +kernel
theorem dX7_findBest_154 : decode cX7_findBest 154 = .ok (.return_, 1) := by decide +kernel
theorem dX7_best_0 : decode cX7_best 0 = .ok (.aload_n 0, 1) := by decide +kernel
theorem dX7_best_1 : decode cX7_best 1 = .ok (.iconst 0, 1) := by decide +kernel
theorem dX7_best_2 : decode cX7_best 2 = .ok (.putfield 59, 3) := by decide +kernel
theorem dX7_best_5 : decode cX7_best 5 = .ok (.iload_n 1, 1) := by decide +kernel
theorem dX7_best_6 : decode cX7_best 6 = .ok (.i2l, 1) := by decide +kernel
theorem dX7_best_7 : decode cX7_best 7 = .ok (.lconst 1, 1) := by decide +kernel
theorem dX7_best_8 : decode cX7_best 8 = .ok (.ldc2_w 146, 3) := by decide +kernel
theorem dX7_best_11 : decode cX7_best 11 = .ok (.invokestatic 66, 3) := by decide +kernel
theorem dX7_best_14 : decode cX7_best 14 = .ok (.ifCond .ne 6, 3) := by decide +kernel
theorem dX7_best_17 : decode cX7_best 17 = .ok (.bipush (-2), 2) := by decide +kernel
theorem dX7_best_19 : decode cX7_best 19 = .ok (.ireturn, 1) := by decide +kernel
theorem dX7_best_20 : decode cX7_best 20 = .ok (.aload_n 0, 1) := by decide +kernel
theorem dX7_best_21 : decode cX7_best 21 = .ok (.getfield 22, 3) := by decide +kernel
theorem dX7_best_24 : decode cX7_best 24 = .ok (.aload_n 0, 1) := by decide +kernel
theorem dX7_best_25 : decode cX7_best 25 = .ok (.getfield 28, 3) := by decide +kernel
theorem dX7_best_28 : decode cX7_best 28 = .ok (.invokestatic 142, 3) := by decide +kernel
theorem dX7_best_31 : decode cX7_best 31 = .ok (.aload_n 0, 1) := by decide +kernel
theorem dX7_best_32 : decode cX7_best 32 = .ok (.iload_n 1, 1) := by decide +kernel
theorem dX7_best_33 : decode cX7_best 33 = .ok (.invokevirtual 148, 3) := by decide +kernel
theorem dX7_best_36 : decode cX7_best 36 = .ok (.iload_n 2, 1) := by decide +kernel
theorem dX7_best_37 : decode cX7_best 37 = .ok (.ifCond .eq 10, 3) := by decide +kernel
theorem dX7_best_40 : decode cX7_best 40 = .ok (.aload_n 0, 1) := by decide +kernel
theorem dX7_best_41 : decode cX7_best 41 = .ok (.getfield 135, 3) := by decide +kernel
theorem dX7_best_44 : decode cX7_best 44 = .ok (.goto 7, 3) := by decide +kernel
theorem dX7_best_47 : decode cX7_best 47 = .ok (.aload_n 0, 1) := by decide +kernel
theorem dX7_best_48 : decode cX7_best 48 = .ok (.getfield 132, 3) := by decide +kernel
theorem dX7_best_51 : decode cX7_best 51 = .ok (.ireturn, 1) := by decide +kernel
theorem dX7_fewest_0 : decode cX7_fewest 0 = .ok (.aload_n 0, 1) := by decide +kernel
theorem dX7_fewest_1 : decode cX7_fewest 1 = .ok (.iconst 0, 1) := by decide +kernel
theorem dX7_fewest_2 : decode cX7_fewest 2 = .ok (.putfield 59, 3) := by decide +kernel
theorem dX7_fewest_5 : decode cX7_fewest 5 = .ok (.iload_n 1, 1) := by decide +kernel
theorem dX7_fewest_6 : decode cX7_fewest 6 = .ok (.i2l, 1) := by decide +kernel
theorem dX7_fewest_7 : decode cX7_fewest 7 = .ok (.lconst 1, 1) := by decide +kernel
theorem dX7_fewest_8 : decode cX7_fewest 8 = .ok (.ldc2_w 115, 3) := by decide +kernel
theorem dX7_fewest_11 : decode cX7_fewest 11 = .ok (.invokestatic 66, 3) := by decide +kernel
theorem dX7_fewest_14 : decode cX7_fewest 14 = .ok (.ifCond .ne 6, 3) := by decide +kernel
theorem dX7_fewest_17 : decode cX7_fewest 17 = .ok (.bipush (-2), 2) := by decide +kernel
theorem dX7_fewest_19 : decode cX7_fewest 19 = .ok (.ireturn, 1) := by decide +kernel
theorem dX7_fewest_20 : decode cX7_fewest 20 = .ok (.aload_n 0, 1) := by decide +kernel
theorem dX7_fewest_21 : decode cX7_fewest 21 = .ok (.getfield 22, 3) := by decide +kernel
theorem dX7_fewest_24 : decode cX7_fewest 24 = .ok (.aload_n 0, 1) := by decide +kernel
theorem dX7_fewest_25 : decode cX7_fewest 25 = .ok (.getfield 28, 3) := by decide +kernel
theorem dX7_fewest_28 : decode cX7_fewest 28 = .ok (.invokestatic 142, 3) := by decide +kernel
theorem dX7_fewest_31 : decode cX7_fewest 31 = .ok (.bipush (-9), 2) := by decide +kernel
theorem dX7_fewest_33 : decode cX7_fewest 33 = .ok (.istore_n 2, 1) := by decide +kernel
theorem dX7_fewest_34 : decode cX7_fewest 34 = .ok (.iconst 1, 1) := by decide +kernel
theorem dX7_fewest_35 : decode cX7_fewest 35 = .ok (.istore_n 3, 1) := by decide +kernel
theorem dX7_fewest_36 : decode cX7_fewest 36 = .ok (.iload_n 3, 1) := by decide +kernel
theorem dX7_fewest_37 : decode cX7_fewest 37 = .ok (.bipush 7, 2) := by decide +kernel
theorem dX7_fewest_39 : decode cX7_fewest 39 = .ok (.if_icmp .ge 34, 3) := by decide +kernel
theorem dX7_fewest_42 : decode cX7_fewest 42 = .ok (.iload_n 2, 1) := by decide +kernel
theorem dX7_fewest_43 : decode cX7_fewest 43 = .ok (.bipush (-9), 2) := by decide +kernel
theorem dX7_fewest_45 : decode cX7_fewest 45 = .ok (.if_icmp .ne 28, 3) := by decide +kernel
theorem dX7_fewest_48 : decode cX7_fewest 48 = .ok (.aload_n 0, 1) := by decide +kernel
theorem dX7_fewest_49 : decode cX7_fewest 49 = .ok (.iload_n 3, 1) := by decide +kernel
theorem dX7_fewest_50 : decode cX7_fewest 50 = .ok (.invokevirtual 148, 3) := by decide +kernel
theorem dX7_fewest_53 : decode cX7_fewest 53 = .ok (.aload_n 0, 1) := by decide +kernel
theorem dX7_fewest_54 : decode cX7_fewest 54 = .ok (.getfield 132, 3) := by decide +kernel
theorem dX7_fewest_57 : decode cX7_fewest 57 = .ok (.iload_n 1, 1) := by decide +kernel
theorem dX7_fewest_58 : decode cX7_fewest 58 = .ok (.if_icmp .lt 7, 3) := by decide +kernel
theorem dX7_fewest_61 : decode cX7_fewest 61 = .ok (.iload_n 3, 1) := by decide +kernel
theorem dX7_fewest_62 : decode cX7_fewest 62 = .ok (.goto 4, 3) := by decide +kernel
theorem dX7_fewest_65 : decode cX7_fewest 65 = .ok (.iload_n 2, 1) := by decide +kernel
theorem dX7_fewest_66 : decode cX7_fewest 66 = .ok (.istore_n 2, 1) := by decide +kernel
theorem dX7_fewest_67 : decode cX7_fewest 67 = .ok (.iinc 3 1, 3) := by decide +kernel
theorem dX7_fewest_70 : decode cX7_fewest 70 = .ok (.goto (-34), 3) := by decide +kernel
theorem dX7_fewest_73 : decode cX7_fewest 73 = .ok (.iload_n 2, 1) := by decide +kernel
theorem dX7_fewest_74 : decode cX7_fewest 74 = .ok (.ireturn, 1) := by decide +kernel
theorem dX7_keys_0 : decode cX7_keys 0 = .ok (.aload_n 0, 1) := by decide +kernel
theorem dX7_keys_1 : decode cX7_keys 1 = .ok (.iconst 0, 1) := by decide +kernel
theorem dX7_keys_2 : decode cX7_keys 2 = .ok (.putfield 59, 3) := by decide +kernel
theorem dX7_keys_5 : decode cX7_keys 5 = .ok (.iload_n 1, 1) := by decide +kernel
theorem dX7_keys_6 : decode cX7_keys 6 = .ok (.i2l, 1) := by decide +kernel
theorem dX7_keys_7 : decode cX7_keys 7 = .ok (.lconst 1, 1) := by decide +kernel
theorem dX7_keys_8 : decode cX7_keys 8 = .ok (.ldc2_w 113, 3) := by decide +kernel
theorem dX7_keys_11 : decode cX7_keys 11 = .ok (.invokestatic 66, 3) := by decide +kernel
theorem dX7_keys_14 : decode cX7_keys 14 = .ok (.ifCond .eq 15, 3) := by decide +kernel
theorem dX7_keys_17 : decode cX7_keys 17 = .ok (.iload_n 2, 1) := by decide +kernel
theorem dX7_keys_18 : decode cX7_keys 18 = .ok (.i2l, 1) := by decide +kernel
theorem dX7_keys_19 : decode cX7_keys 19 = .ok (.lconst 0, 1) := by decide +kernel
theorem dX7_keys_20 : decode cX7_keys 20 = .ok (.ldc2_w 115, 3) := by decide +kernel
theorem dX7_keys_23 : decode cX7_keys 23 = .ok (.invokestatic 66, 3) := by decide +kernel
theorem dX7_keys_26 : decode cX7_keys 26 = .ok (.ifCond .ne 6, 3) := by decide +kernel
theorem dX7_keys_29 : decode cX7_keys 29 = .ok (.bipush (-2), 2) := by decide +kernel
theorem dX7_keys_31 : decode cX7_keys 31 = .ok (.ireturn, 1) := by decide +kernel
theorem dX7_keys_32 : decode cX7_keys 32 = .ok (.bipush (-9), 2) := by decide +kernel
theorem dX7_keys_34 : decode cX7_keys 34 = .ok (.istore_n 3, 1) := by decide +kernel
theorem dX7_keys_35 : decode cX7_keys 35 = .ok (.iconst 0, 1) := by decide +kernel
theorem dX7_keys_36 : decode cX7_keys 36 = .ok (.istore 4, 2) := by decide +kernel
theorem dX7_keys_38 : decode cX7_keys 38 = .ok (.iload 4, 2) := by decide +kernel
theorem dX7_keys_40 : decode cX7_keys 40 = .ok (.iconst 1, 1) := by decide +kernel
theorem dX7_keys_41 : decode cX7_keys 41 = .ok (.aload_n 0, 1) := by decide +kernel
theorem dX7_keys_42 : decode cX7_keys 42 = .ok (.getfield 63, 3) := by decide +kernel
theorem dX7_keys_45 : decode cX7_keys 45 = .ok (.ishl, 1) := by decide +kernel
theorem dX7_keys_46 : decode cX7_keys 46 = .ok (.if_icmp .ge 81, 3) := by decide +kernel
theorem dX7_keys_49 : decode cX7_keys 49 = .ok (.iload 4, 2) := by decide +kernel
theorem dX7_keys_51 : decode cX7_keys 51 = .ok (.aload_n 0, 1) := by decide +kernel
theorem dX7_keys_52 : decode cX7_keys 52 = .ok (.getfield 22, 3) := by decide +kernel
theorem dX7_keys_55 : decode cX7_keys 55 = .ok (.iconst 5, 1) := by decide +kernel
theorem dX7_keys_56 : decode cX7_keys 56 = .ok (.iaload, 1) := by decide +kernel
theorem dX7_keys_57 : decode cX7_keys 57 = .ok (.iand, 1) := by decide +kernel
theorem dX7_keys_58 : decode cX7_keys 58 = .ok (.ifCond .ne 63, 3) := by decide +kernel
theorem dX7_keys_61 : decode cX7_keys 61 = .ok (.iload_n 3, 1) := by decide +kernel
theorem dX7_keys_62 : decode cX7_keys 62 = .ok (.bipush (-9), 2) := by decide +kernel
theorem dX7_keys_64 : decode cX7_keys 64 = .ok (.if_icmp .eq 15, 3) := by decide +kernel
theorem dX7_keys_67 : decode cX7_keys 67 = .ok (.iload 4, 2) := by decide +kernel
theorem dX7_keys_69 : decode cX7_keys 69 = .ok (.invokestatic 152, 3) := by decide +kernel
theorem dX7_keys_72 : decode cX7_keys 72 = .ok (.iload_n 3, 1) := by decide +kernel
theorem dX7_keys_73 : decode cX7_keys 73 = .ok (.invokestatic 152, 3) := by decide +kernel
theorem dX7_keys_76 : decode cX7_keys 76 = .ok (.if_icmp .ge 45, 3) := by decide +kernel
theorem dX7_keys_79 : decode cX7_keys 79 = .ok (.aload_n 0, 1) := by decide +kernel
theorem dX7_keys_80 : decode cX7_keys 80 = .ok (.getfield 22, 3) := by decide +kernel
theorem dX7_keys_83 : decode cX7_keys 83 = .ok (.aload_n 0, 1) := by decide +kernel
theorem dX7_keys_84 : decode cX7_keys 84 = .ok (.getfield 28, 3) := by decide +kernel
theorem dX7_keys_87 : decode cX7_keys 87 = .ok (.invokestatic 142, 3) := by decide +kernel
theorem dX7_keys_90 : decode cX7_keys 90 = .ok (.aload_n 0, 1) := by decide +kernel
theorem dX7_keys_91 : decode cX7_keys 91 = .ok (.getfield 28, 3) := by decide +kernel
theorem dX7_keys_94 : decode cX7_keys 94 = .ok (.iconst 5, 1) := by decide +kernel
theorem dX7_keys_95 : decode cX7_keys 95 = .ok (.dup2, 1) := by decide +kernel
theorem dX7_keys_96 : decode cX7_keys 96 = .ok (.iaload, 1) := by decide +kernel
theorem dX7_keys_97 : decode cX7_keys 97 = .ok (.iload 4, 2) := by decide +kernel
theorem dX7_keys_99 : decode cX7_keys 99 = .ok (.ior, 1) := by decide +kernel
theorem dX7_keys_100 : decode cX7_keys 100 = .ok (.iastore, 1) := by decide +kernel
theorem dX7_keys_101 : decode cX7_keys 101 = .ok (.aload_n 0, 1) := by decide +kernel
theorem dX7_keys_102 : decode cX7_keys 102 = .ok (.iload_n 1, 1) := by decide +kernel
theorem dX7_keys_103 : decode cX7_keys 103 = .ok (.invokevirtual 148, 3) := by decide +kernel
theorem dX7_keys_106 : decode cX7_keys 106 = .ok (.aload_n 0, 1) := by decide +kernel
theorem dX7_keys_107 : decode cX7_keys 107 = .ok (.getfield 132, 3) := by decide +kernel
theorem dX7_keys_110 : decode cX7_keys 110 = .ok (.iload_n 2, 1) := by decide +kernel
theorem dX7_keys_111 : decode cX7_keys 111 = .ok (.if_icmp .gt 8, 3) := by decide +kernel
theorem dX7_keys_114 : decode cX7_keys 114 = .ok (.iload 4, 2) := by decide +kernel
theorem dX7_keys_116 : decode cX7_keys 116 = .ok (.goto 4, 3) := by decide +kernel
theorem dX7_keys_119 : decode cX7_keys 119 = .ok (.iload_n 3, 1) := by decide +kernel
theorem dX7_keys_120 : decode cX7_keys 120 = .ok (.istore_n 3, 1) := by decide +kernel
theorem dX7_keys_121 : decode cX7_keys 121 = .ok (.iinc 4 1, 3) := by decide +kernel
theorem dX7_keys_124 : decode cX7_keys 124 = .ok (.goto (-86), 3) := by decide +kernel
theorem dX7_keys_127 : decode cX7_keys 127 = .ok (.iload_n 3, 1) := by decide +kernel
theorem dX7_keys_128 : decode cX7_keys 128 = .ok (.ireturn, 1) := by decide +kernel
theorem dX7_noRow_0 : decode cX7_noRow 0 = .ok (.iload_n 0, 1) := by decide +kernel
theorem dX7_noRow_1 : decode cX7_noRow 1 = .ok (.i2l, 1) := by decide +kernel
theorem dX7_noRow_2 : decode cX7_noRow 2 = .ok (.lconst 1, 1) := by decide +kernel
theorem dX7_noRow_3 : decode cX7_noRow 3 = .ok (.iload_n 1, 1) := by decide +kernel
theorem dX7_noRow_4 : decode cX7_noRow 4 = .ok (.i2l, 1) := by decide +kernel
theorem dX7_noRow_5 : decode cX7_noRow 5 = .ok (.invokestatic 66, 3) := by decide +kernel
theorem dX7_noRow_8 : decode cX7_noRow 8 = .ok (.ifCond .eq 21, 3) := by decide +kernel
theorem dX7_noRow_11 : decode cX7_noRow 11 = .ok (.iload_n 2, 1) := by decide +kernel
theorem dX7_noRow_12 : decode cX7_noRow 12 = .ok (.i2l, 1) := by decide +kernel
theorem dX7_noRow_13 : decode cX7_noRow 13 = .ok (.lconst 0, 1) := by decide +kernel
theorem dX7_noRow_14 : decode cX7_noRow 14 = .ok (.bipush 10, 2) := by decide +kernel
theorem dX7_noRow_16 : decode cX7_noRow 16 = .ok (.iload_n 0, 1) := by decide +kernel
theorem dX7_noRow_17 : decode cX7_noRow 17 = .ok (.invokestatic 138, 3) := by decide +kernel
theorem dX7_noRow_20 : decode cX7_noRow 20 = .ok (.iconst 1, 1) := by decide +kernel
theorem dX7_noRow_21 : decode cX7_noRow 21 = .ok (.isub, 1) := by decide +kernel
theorem dX7_noRow_22 : decode cX7_noRow 22 = .ok (.i2l, 1) := by decide +kernel
theorem dX7_noRow_23 : decode cX7_noRow 23 = .ok (.invokestatic 66, 3) := by decide +kernel
theorem dX7_noRow_26 : decode cX7_noRow 26 = .ok (.ifCond .ne 5, 3) := by decide +kernel
theorem dX7_noRow_29 : decode cX7_noRow 29 = .ok (.iconst 1, 1) := by decide +kernel
theorem dX7_noRow_30 : decode cX7_noRow 30 = .ok (.ireturn, 1) := by decide +kernel
theorem dX7_noRow_31 : decode cX7_noRow 31 = .ok (.iconst 1, 1) := by decide +kernel
theorem dX7_noRow_32 : decode cX7_noRow 32 = .ok (.istore_n 3, 1) := by decide +kernel
theorem dX7_noRow_33 : decode cX7_noRow 33 = .ok (.iconst 0, 1) := by decide +kernel
theorem dX7_noRow_34 : decode cX7_noRow 34 = .ok (.istore 4, 2) := by decide +kernel
theorem dX7_noRow_36 : decode cX7_noRow 36 = .ok (.iload 4, 2) := by decide +kernel
theorem dX7_noRow_38 : decode cX7_noRow 38 = .ok (.iload_n 0, 1) := by decide +kernel
theorem dX7_noRow_39 : decode cX7_noRow 39 = .ok (.if_icmp .ge 35, 3) := by decide +kernel
theorem dX7_noRow_42 : decode cX7_noRow 42 = .ok (.iload_n 3, 1) := by decide +kernel
theorem dX7_noRow_43 : decode cX7_noRow 43 = .ok (.ifCond .eq 23, 3) := by decide +kernel
theorem dX7_noRow_46 : decode cX7_noRow 46 = .ok (.iload_n 2, 1) := by decide +kernel
theorem dX7_noRow_47 : decode cX7_noRow 47 = .ok (.bipush 10, 2) := by decide +kernel
theorem dX7_noRow_49 : decode cX7_noRow 49 = .ok (.iload 4, 2) := by decide +kernel
theorem dX7_noRow_51 : decode cX7_noRow 51 = .ok (.invokestatic 138, 3) := by decide +kernel
theorem dX7_noRow_54 : decode cX7_noRow 54 = .ok (.idiv, 1) := by decide +kernel
theorem dX7_noRow_55 : decode cX7_noRow 55 = .ok (.bipush 10, 2) := by decide +kernel
theorem dX7_noRow_57 : decode cX7_noRow 57 = .ok (.irem, 1) := by decide +kernel
theorem dX7_noRow_58 : decode cX7_noRow 58 = .ok (.iconst 4, 1) := by decide +kernel
theorem dX7_noRow_59 : decode cX7_noRow 59 = .ok (.if_icmp .ge 7, 3) := by decide +kernel
theorem dX7_noRow_62 : decode cX7_noRow 62 = .ok (.iconst 1, 1) := by decide +kernel
theorem dX7_noRow_63 : decode cX7_noRow 63 = .ok (.goto 4, 3) := by decide +kernel
theorem dX7_noRow_66 : decode cX7_noRow 66 = .ok (.iconst 0, 1) := by decide +kernel
theorem dX7_noRow_67 : decode cX7_noRow 67 = .ok (.istore_n 3, 1) := by decide +kernel
theorem dX7_noRow_68 : decode cX7_noRow 68 = .ok (.iinc 4 1, 3) := by decide +kernel
theorem dX7_noRow_71 : decode cX7_noRow 71 = .ok (.goto (-35), 3) := by decide +kernel
theorem dX7_noRow_74 : decode cX7_noRow 74 = .ok (.iload_n 3, 1) := by decide +kernel
theorem dX7_noRow_75 : decode cX7_noRow 75 = .ok (.ifCond .ne 7, 3) := by decide +kernel
theorem dX7_noRow_78 : decode cX7_noRow 78 = .ok (.iconst 1, 1) := by decide +kernel
theorem dX7_noRow_79 : decode cX7_noRow 79 = .ok (.goto 4, 3) := by decide +kernel
theorem dX7_noRow_82 : decode cX7_noRow 82 = .ok (.iconst 0, 1) := by decide +kernel
theorem dX7_noRow_83 : decode cX7_noRow 83 = .ok (.ireturn, 1) := by decide +kernel
theorem dX7_judge_0 : decode cX7_judge 0 = .ok (.aload_n 0, 1) := by decide +kernel
theorem dX7_judge_1 : decode cX7_judge 1 = .ok (.iconst 0, 1) := by decide +kernel
theorem dX7_judge_2 : decode cX7_judge 2 = .ok (.putfield 59, 3) := by decide +kernel
theorem dX7_judge_5 : decode cX7_judge 5 = .ok (.iload_n 1, 1) := by decide +kernel
theorem dX7_judge_6 : decode cX7_judge 6 = .ok (.bipush 8, 2) := by decide +kernel
theorem dX7_judge_8 : decode cX7_judge 8 = .ok (.iload_n 2, 1) := by decide +kernel
theorem dX7_judge_9 : decode cX7_judge 9 = .ok (.invokestatic 155, 3) := by decide +kernel
theorem dX7_judge_12 : decode cX7_judge 12 = .ok (.ifCond .eq 6, 3) := by decide +kernel
theorem dX7_judge_15 : decode cX7_judge 15 = .ok (.bipush (-2), 2) := by decide +kernel
theorem dX7_judge_17 : decode cX7_judge 17 = .ok (.ireturn, 1) := by decide +kernel
theorem dX7_judge_18 : decode cX7_judge 18 = .ok (.aload_n 0, 1) := by decide +kernel
theorem dX7_judge_19 : decode cX7_judge 19 = .ok (.getfield 22, 3) := by decide +kernel
theorem dX7_judge_22 : decode cX7_judge 22 = .ok (.aload_n 0, 1) := by decide +kernel
theorem dX7_judge_23 : decode cX7_judge 23 = .ok (.getfield 25, 3) := by decide +kernel
theorem dX7_judge_26 : decode cX7_judge 26 = .ok (.invokestatic 142, 3) := by decide +kernel
theorem dX7_judge_29 : decode cX7_judge 29 = .ok (.iconst 0, 1) := by decide +kernel
theorem dX7_judge_30 : decode cX7_judge 30 = .ok (.istore_n 3, 1) := by decide +kernel
theorem dX7_judge_31 : decode cX7_judge 31 = .ok (.iload_n 3, 1) := by decide +kernel
theorem dX7_judge_32 : decode cX7_judge 32 = .ok (.iload_n 1, 1) := by decide +kernel
theorem dX7_judge_33 : decode cX7_judge 33 = .ok (.if_icmp .ge 66, 3) := by decide +kernel
theorem dX7_judge_36 : decode cX7_judge 36 = .ok (.iload_n 2, 1) := by decide +kernel
theorem dX7_judge_37 : decode cX7_judge 37 = .ok (.bipush 10, 2) := by decide +kernel
theorem dX7_judge_39 : decode cX7_judge 39 = .ok (.iload_n 1, 1) := by decide +kernel
theorem dX7_judge_40 : decode cX7_judge 40 = .ok (.iconst 1, 1) := by decide +kernel
theorem dX7_judge_41 : decode cX7_judge 41 = .ok (.isub, 1) := by decide +kernel
theorem dX7_judge_42 : decode cX7_judge 42 = .ok (.iload_n 3, 1) := by decide +kernel
theorem dX7_judge_43 : decode cX7_judge 43 = .ok (.isub, 1) := by decide +kernel
theorem dX7_judge_44 : decode cX7_judge 44 = .ok (.invokestatic 138, 3) := by decide +kernel
theorem dX7_judge_47 : decode cX7_judge 47 = .ok (.idiv, 1) := by decide +kernel
theorem dX7_judge_48 : decode cX7_judge 48 = .ok (.bipush 10, 2) := by decide +kernel
theorem dX7_judge_50 : decode cX7_judge 50 = .ok (.irem, 1) := by decide +kernel
theorem dX7_judge_51 : decode cX7_judge 51 = .ok (.istore 4, 2) := by decide +kernel
theorem dX7_judge_53 : decode cX7_judge 53 = .ok (.aload_n 0, 1) := by decide +kernel
theorem dX7_judge_54 : decode cX7_judge 54 = .ok (.aload_n 0, 1) := by decide +kernel
theorem dX7_judge_55 : decode cX7_judge 55 = .ok (.getfield 25, 3) := by decide +kernel
theorem dX7_judge_58 : decode cX7_judge 58 = .ok (.iload 4, 2) := by decide +kernel
theorem dX7_judge_60 : decode cX7_judge 60 = .ok (.invokevirtual 121, 3) := by decide +kernel
theorem dX7_judge_63 : decode cX7_judge 63 = .ok (.ifCond .ne 5, 3) := by decide +kernel
theorem dX7_judge_66 : decode cX7_judge 66 = .ok (.iload_n 3, 1) := by decide +kernel
theorem dX7_judge_67 : decode cX7_judge 67 = .ok (.ireturn, 1) := by decide +kernel
theorem dX7_judge_68 : decode cX7_judge 68 = .ok (.aload_n 0, 1) := by decide +kernel
theorem dX7_judge_69 : decode cX7_judge 69 = .ok (.aload_n 0, 1) := by decide +kernel
theorem dX7_judge_70 : decode cX7_judge 70 = .ok (.getfield 25, 3) := by decide +kernel
theorem dX7_judge_73 : decode cX7_judge 73 = .ok (.iload 4, 2) := by decide +kernel
theorem dX7_judge_75 : decode cX7_judge 75 = .ok (.invokevirtual 128, 3) := by decide +kernel
theorem dX7_judge_78 : decode cX7_judge 78 = .ok (.istore 5, 2) := by decide +kernel
theorem dX7_judge_80 : decode cX7_judge 80 = .ok (.iload 4, 2) := by decide +kernel
theorem dX7_judge_82 : decode cX7_judge 82 = .ok (.iconst 2, 1) := by decide +kernel
theorem dX7_judge_83 : decode cX7_judge 83 = .ok (.if_icmp .ne 10, 3) := by decide +kernel
theorem dX7_judge_86 : decode cX7_judge 86 = .ok (.iload 5, 2) := by decide +kernel
theorem dX7_judge_88 : decode cX7_judge 88 = .ok (.ifCond .ne 5, 3) := by decide +kernel
theorem dX7_judge_91 : decode cX7_judge 91 = .ok (.iload_n 3, 1) := by decide +kernel
theorem dX7_judge_92 : decode cX7_judge 92 = .ok (.ireturn, 1) := by decide +kernel
theorem dX7_judge_93 : decode cX7_judge 93 = .ok (.iinc 3 1, 3) := by decide +kernel
theorem dX7_judge_96 : decode cX7_judge 96 = .ok (.goto (-65), 3) := by decide +kernel
theorem dX7_judge_99 : decode cX7_judge 99 = .ok (.bipush (-9), 2) := by decide +kernel
theorem dX7_judge_101 : decode cX7_judge 101 = .ok (.ireturn, 1) := by decide +kernel
theorem dX7_ways_0 : decode cX7_ways 0 = .ok (.iconst 1, 1) := by decide +kernel
theorem dX7_ways_1 : decode cX7_ways 1 = .ok (.istore_n 1, 1) := by decide +kernel
theorem dX7_ways_2 : decode cX7_ways 2 = .ok (.iconst 2, 1) := by decide +kernel
theorem dX7_ways_3 : decode cX7_ways 3 = .ok (.istore_n 2, 1) := by decide +kernel
theorem dX7_ways_4 : decode cX7_ways 4 = .ok (.iload_n 2, 1) := by decide +kernel
theorem dX7_ways_5 : decode cX7_ways 5 = .ok (.iload_n 0, 1) := by decide +kernel
theorem dX7_ways_6 : decode cX7_ways 6 = .ok (.if_icmp .gt 13, 3) := by decide +kernel
theorem dX7_ways_9 : decode cX7_ways 9 = .ok (.iload_n 1, 1) := by decide +kernel
theorem dX7_ways_10 : decode cX7_ways 10 = .ok (.iload_n 2, 1) := by decide +kernel
theorem dX7_ways_11 : decode cX7_ways 11 = .ok (.imul, 1) := by decide +kernel
theorem dX7_ways_12 : decode cX7_ways 12 = .ok (.istore_n 1, 1) := by decide +kernel
theorem dX7_ways_13 : decode cX7_ways 13 = .ok (.iinc 2 1, 3) := by decide +kernel
theorem dX7_ways_16 : decode cX7_ways 16 = .ok (.goto (-12), 3) := by decide +kernel
theorem dX7_ways_19 : decode cX7_ways 19 = .ok (.iload_n 1, 1) := by decide +kernel
theorem dX7_ways_20 : decode cX7_ways 20 = .ok (.ireturn, 1) := by decide +kernel
theorem dX7_divisor_0 : decode cX7_divisor 0 = .ok (.iload_n 0, 1) := by decide +kernel
theorem dX7_divisor_1 : decode cX7_divisor 1 = .ok (.ifCond .ge 8, 3) := by decide +kernel
theorem dX7_divisor_4 : decode cX7_divisor 4 = .ok (.iload_n 0, 1) := by decide +kernel
theorem dX7_divisor_5 : decode cX7_divisor 5 = .ok (.ineg, 1) := by decide +kernel
theorem dX7_divisor_6 : decode cX7_divisor 6 = .ok (.goto 4, 3) := by decide +kernel
theorem dX7_divisor_9 : decode cX7_divisor 9 = .ok (.iload_n 0, 1) := by decide +kernel
theorem dX7_divisor_10 : decode cX7_divisor 10 = .ok (.istore_n 2, 1) := by decide +kernel
theorem dX7_divisor_11 : decode cX7_divisor 11 = .ok (.iload_n 1, 1) := by decide +kernel
theorem dX7_divisor_12 : decode cX7_divisor 12 = .ok (.istore_n 3, 1) := by decide +kernel
theorem dX7_divisor_13 : decode cX7_divisor 13 = .ok (.iload_n 3, 1) := by decide +kernel
theorem dX7_divisor_14 : decode cX7_divisor 14 = .ok (.ifCond .eq 16, 3) := by decide +kernel
theorem dX7_divisor_17 : decode cX7_divisor 17 = .ok (.iload_n 2, 1) := by decide +kernel
theorem dX7_divisor_18 : decode cX7_divisor 18 = .ok (.iload_n 3, 1) := by decide +kernel
theorem dX7_divisor_19 : decode cX7_divisor 19 = .ok (.irem, 1) := by decide +kernel
theorem dX7_divisor_20 : decode cX7_divisor 20 = .ok (.istore 4, 2) := by decide +kernel
theorem dX7_divisor_22 : decode cX7_divisor 22 = .ok (.iload_n 3, 1) := by decide +kernel
theorem dX7_divisor_23 : decode cX7_divisor 23 = .ok (.istore_n 2, 1) := by decide +kernel
theorem dX7_divisor_24 : decode cX7_divisor 24 = .ok (.iload 4, 2) := by decide +kernel
theorem dX7_divisor_26 : decode cX7_divisor 26 = .ok (.istore_n 3, 1) := by decide +kernel
theorem dX7_divisor_27 : decode cX7_divisor 27 = .ok (.goto (-14), 3) := by decide +kernel
theorem dX7_divisor_30 : decode cX7_divisor 30 = .ok (.iload_n 2, 1) := by decide +kernel
theorem dX7_divisor_31 : decode cX7_divisor 31 = .ok (.ireturn, 1) := by decide +kernel
theorem dX7_fraction_0 : decode cX7_fraction 0 = .ok (.iload_n 0, 1) := by decide +kernel
theorem dX7_fraction_1 : decode cX7_fraction 1 = .ok (.iload_n 1, 1) := by decide +kernel
theorem dX7_fraction_2 : decode cX7_fraction 2 = .ok (.invokestatic 159, 3) := by decide +kernel
theorem dX7_fraction_5 : decode cX7_fraction 5 = .ok (.istore_n 3, 1) := by decide +kernel
theorem dX7_fraction_6 : decode cX7_fraction 6 = .ok (.iload_n 2, 1) := by decide +kernel
theorem dX7_fraction_7 : decode cX7_fraction 7 = .ok (.ifCond .eq 9, 3) := by decide +kernel
theorem dX7_fraction_10 : decode cX7_fraction 10 = .ok (.iload_n 0, 1) := by decide +kernel
theorem dX7_fraction_11 : decode cX7_fraction 11 = .ok (.iload_n 3, 1) := by decide +kernel
theorem dX7_fraction_12 : decode cX7_fraction 12 = .ok (.idiv, 1) := by decide +kernel
theorem dX7_fraction_13 : decode cX7_fraction 13 = .ok (.goto 6, 3) := by decide +kernel
theorem dX7_fraction_16 : decode cX7_fraction 16 = .ok (.iload_n 1, 1) := by decide +kernel
theorem dX7_fraction_17 : decode cX7_fraction 17 = .ok (.iload_n 3, 1) := by decide +kernel
theorem dX7_fraction_18 : decode cX7_fraction 18 = .ok (.idiv, 1) := by decide +kernel
theorem dX7_fraction_19 : decode cX7_fraction 19 = .ok (.ireturn, 1) := by decide +kernel
theorem dX7_share_0 : decode cX7_share 0 = .ok (.aload_n 0, 1) := by decide +kernel
theorem dX7_share_1 : decode cX7_share 1 = .ok (.iconst 0, 1) := by decide +kernel
theorem dX7_share_2 : decode cX7_share 2 = .ok (.putfield 59, 3) := by decide +kernel
theorem dX7_share_5 : decode cX7_share 5 = .ok (.aload_n 0, 1) := by decide +kernel
theorem dX7_share_6 : decode cX7_share 6 = .ok (.iload_n 1, 1) := by decide +kernel
theorem dX7_share_7 : decode cX7_share 7 = .ok (.invokevirtual 109, 3) := by decide +kernel
theorem dX7_share_10 : decode cX7_share 10 = .ok (.ifCond .eq 5, 3) := by decide +kernel
theorem dX7_share_13 : decode cX7_share 13 = .ok (.iconst (-1), 1) := by decide +kernel
theorem dX7_share_14 : decode cX7_share 14 = .ok (.ireturn, 1) := by decide +kernel
theorem dX7_share_15 : decode cX7_share 15 = .ok (.iconst 0, 1) := by decide +kernel
theorem dX7_share_16 : decode cX7_share 16 = .ok (.istore_n 3, 1) := by decide +kernel
theorem dX7_share_17 : decode cX7_share 17 = .ok (.iload_n 3, 1) := by decide +kernel
theorem dX7_share_18 : decode cX7_share 18 = .ok (.iconst 1, 1) := by decide +kernel
theorem dX7_share_19 : decode cX7_share 19 = .ok (.aload_n 0, 1) := by decide +kernel
theorem dX7_share_20 : decode cX7_share 20 = .ok (.getfield 63, 3) := by decide +kernel
theorem dX7_share_23 : decode cX7_share 23 = .ok (.ishl, 1) := by decide +kernel
theorem dX7_share_24 : decode cX7_share 24 = .ok (.if_icmp .ge 45, 3) := by decide +kernel
theorem dX7_share_27 : decode cX7_share 27 = .ok (.aload_n 0, 1) := by decide +kernel
theorem dX7_share_28 : decode cX7_share 28 = .ok (.getfield 22, 3) := by decide +kernel
theorem dX7_share_31 : decode cX7_share 31 = .ok (.aload_n 0, 1) := by decide +kernel
theorem dX7_share_32 : decode cX7_share 32 = .ok (.getfield 28, 3) := by decide +kernel
theorem dX7_share_35 : decode cX7_share 35 = .ok (.invokestatic 142, 3) := by decide +kernel
theorem dX7_share_38 : decode cX7_share 38 = .ok (.aload_n 0, 1) := by decide +kernel
theorem dX7_share_39 : decode cX7_share 39 = .ok (.getfield 28, 3) := by decide +kernel
theorem dX7_share_42 : decode cX7_share 42 = .ok (.iconst 4, 1) := by decide +kernel
theorem dX7_share_43 : decode cX7_share 43 = .ok (.dup2, 1) := by decide +kernel
theorem dX7_share_44 : decode cX7_share 44 = .ok (.iaload, 1) := by decide +kernel
theorem dX7_share_45 : decode cX7_share 45 = .ok (.iload_n 3, 1) := by decide +kernel
theorem dX7_share_46 : decode cX7_share 46 = .ok (.iand, 1) := by decide +kernel
theorem dX7_share_47 : decode cX7_share 47 = .ok (.iastore, 1) := by decide +kernel
theorem dX7_share_48 : decode cX7_share 48 = .ok (.aload_n 0, 1) := by decide +kernel
theorem dX7_share_49 : decode cX7_share 49 = .ok (.iconst 3, 1) := by decide +kernel
theorem dX7_share_50 : decode cX7_share 50 = .ok (.invokevirtual 148, 3) := by decide +kernel
theorem dX7_share_53 : decode cX7_share 53 = .ok (.aload_n 0, 1) := by decide +kernel
theorem dX7_share_54 : decode cX7_share 54 = .ok (.getfield 53, 3) := by decide +kernel
theorem dX7_share_57 : decode cX7_share 57 = .ok (.iload_n 3, 1) := by decide +kernel
theorem dX7_share_58 : decode cX7_share 58 = .ok (.aload_n 0, 1) := by decide +kernel
theorem dX7_share_59 : decode cX7_share 59 = .ok (.getfield 132, 3) := by decide +kernel
theorem dX7_share_62 : decode cX7_share 62 = .ok (.iastore, 1) := by decide +kernel
theorem dX7_share_63 : decode cX7_share 63 = .ok (.iinc 3 1, 3) := by decide +kernel
theorem dX7_share_66 : decode cX7_share 66 = .ok (.goto (-49), 3) := by decide +kernel
theorem dX7_share_69 : decode cX7_share 69 = .ok (.iconst 0, 1) := by decide +kernel
theorem dX7_share_70 : decode cX7_share 70 = .ok (.istore_n 3, 1) := by decide +kernel
theorem dX7_share_71 : decode cX7_share 71 = .ok (.iconst 0, 1) := by decide +kernel
theorem dX7_share_72 : decode cX7_share 72 = .ok (.istore 4, 2) := by decide +kernel
theorem dX7_share_74 : decode cX7_share 74 = .ok (.iload 4, 2) := by decide +kernel
theorem dX7_share_76 : decode cX7_share 76 = .ok (.iconst 1, 1) := by decide +kernel
theorem dX7_share_77 : decode cX7_share 77 = .ok (.aload_n 0, 1) := by decide +kernel
theorem dX7_share_78 : decode cX7_share 78 = .ok (.getfield 63, 3) := by decide +kernel
theorem dX7_share_81 : decode cX7_share 81 = .ok (.ishl, 1) := by decide +kernel
theorem dX7_share_82 : decode cX7_share 82 = .ok (.if_icmp .ge 66, 3) := by decide +kernel
theorem dX7_share_85 : decode cX7_share 85 = .ok (.iload 4, 2) := by decide +kernel
theorem dX7_share_87 : decode cX7_share 87 = .ok (.iload_n 1, 1) := by decide +kernel
theorem dX7_share_88 : decode cX7_share 88 = .ok (.invokestatic 98, 3) := by decide +kernel
theorem dX7_share_91 : decode cX7_share 91 = .ok (.ifCond .ne 51, 3) := by decide +kernel
theorem dX7_share_94 : decode cX7_share 94 = .ok (.iload 4, 2) := by decide +kernel
theorem dX7_share_96 : decode cX7_share 96 = .ok (.invokestatic 152, 3) := by decide +kernel
theorem dX7_share_99 : decode cX7_share 99 = .ok (.istore 5, 2) := by decide +kernel
theorem dX7_share_101 : decode cX7_share 101 = .ok (.iload_n 3, 1) := by decide +kernel
theorem dX7_share_102 : decode cX7_share 102 = .ok (.iload 5, 2) := by decide +kernel
theorem dX7_share_104 : decode cX7_share 104 = .ok (.invokestatic 162, 3) := by decide +kernel
theorem dX7_share_107 : decode cX7_share 107 = .ok (.aload_n 0, 1) := by decide +kernel
theorem dX7_share_108 : decode cX7_share 108 = .ok (.getfield 63, 3) := by decide +kernel
theorem dX7_share_111 : decode cX7_share 111 = .ok (.iconst 1, 1) := by decide +kernel
theorem dX7_share_112 : decode cX7_share 112 = .ok (.isub, 1) := by decide +kernel
theorem dX7_share_113 : decode cX7_share 113 = .ok (.iload 5, 2) := by decide +kernel
theorem dX7_share_115 : decode cX7_share 115 = .ok (.isub, 1) := by decide +kernel
theorem dX7_share_116 : decode cX7_share 116 = .ok (.invokestatic 162, 3) := by decide +kernel
theorem dX7_share_119 : decode cX7_share 119 = .ok (.imul, 1) := by decide +kernel
theorem dX7_share_120 : decode cX7_share 120 = .ok (.aload_n 0, 1) := by decide +kernel
theorem dX7_share_121 : decode cX7_share 121 = .ok (.getfield 53, 3) := by decide +kernel
theorem dX7_share_124 : decode cX7_share 124 = .ok (.iload 4, 2) := by decide +kernel
theorem dX7_share_126 : decode cX7_share 126 = .ok (.iconst 1, 1) := by decide +kernel
theorem dX7_share_127 : decode cX7_share 127 = .ok (.iload_n 1, 1) := by decide +kernel
theorem dX7_share_128 : decode cX7_share 128 = .ok (.ishl, 1) := by decide +kernel
theorem dX7_share_129 : decode cX7_share 129 = .ok (.ior, 1) := by decide +kernel
theorem dX7_share_130 : decode cX7_share 130 = .ok (.iaload, 1) := by decide +kernel
theorem dX7_share_131 : decode cX7_share 131 = .ok (.aload_n 0, 1) := by decide +kernel
theorem dX7_share_132 : decode cX7_share 132 = .ok (.getfield 53, 3) := by decide +kernel
theorem dX7_share_135 : decode cX7_share 135 = .ok (.iload 4, 2) := by decide +kernel
theorem dX7_share_137 : decode cX7_share 137 = .ok (.iaload, 1) := by decide +kernel
theorem dX7_share_138 : decode cX7_share 138 = .ok (.isub, 1) := by decide +kernel
theorem dX7_share_139 : decode cX7_share 139 = .ok (.imul, 1) := by decide +kernel
theorem dX7_share_140 : decode cX7_share 140 = .ok (.iadd, 1) := by decide +kernel
theorem dX7_share_141 : decode cX7_share 141 = .ok (.istore_n 3, 1) := by decide +kernel
theorem dX7_share_142 : decode cX7_share 142 = .ok (.iinc 4 1, 3) := by decide +kernel
theorem dX7_share_145 : decode cX7_share 145 = .ok (.goto (-71), 3) := by decide +kernel
theorem dX7_share_148 : decode cX7_share 148 = .ok (.iload_n 3, 1) := by decide +kernel
theorem dX7_share_149 : decode cX7_share 149 = .ok (.aload_n 0, 1) := by decide +kernel
theorem dX7_share_150 : decode cX7_share 150 = .ok (.getfield 63, 3) := by decide +kernel
theorem dX7_share_153 : decode cX7_share 153 = .ok (.invokestatic 162, 3) := by decide +kernel
theorem dX7_share_156 : decode cX7_share 156 = .ok (.iload_n 2, 1) := by decide +kernel
theorem dX7_share_157 : decode cX7_share 157 = .ok (.invokestatic 165, 3) := by decide +kernel
theorem dX7_share_160 : decode cX7_share 160 = .ok (.ireturn, 1) := by decide +kernel
theorem dX7_see_0 : decode cX7_see 0 = .ok (.aload_n 0, 1) := by decide +kernel
theorem dX7_see_1 : decode cX7_see 1 = .ok (.iconst 0, 1) := by decide +kernel
theorem dX7_see_2 : decode cX7_see 2 = .ok (.putfield 59, 3) := by decide +kernel
theorem dX7_see_5 : decode cX7_see 5 = .ok (.aload_n 0, 1) := by decide +kernel
theorem dX7_see_6 : decode cX7_see 6 = .ok (.iload_n 1, 1) := by decide +kernel
theorem dX7_see_7 : decode cX7_see 7 = .ok (.invokevirtual 109, 3) := by decide +kernel
theorem dX7_see_10 : decode cX7_see 10 = .ok (.ifCond .eq 5, 3) := by decide +kernel
theorem dX7_see_13 : decode cX7_see 13 = .ok (.iconst (-1), 1) := by decide +kernel
theorem dX7_see_14 : decode cX7_see 14 = .ok (.ireturn, 1) := by decide +kernel
theorem dX7_see_15 : decode cX7_see 15 = .ok (.iload_n 2, 1) := by decide +kernel
theorem dX7_see_16 : decode cX7_see 16 = .ok (.i2l, 1) := by decide +kernel
theorem dX7_see_17 : decode cX7_see 17 = .ok (.lconst 0, 1) := by decide +kernel
theorem dX7_see_18 : decode cX7_see 18 = .ok (.ldc2_w 169, 3) := by decide +kernel
theorem dX7_see_21 : decode cX7_see 21 = .ok (.invokestatic 66, 3) := by decide +kernel
theorem dX7_see_24 : decode cX7_see 24 = .ok (.ifCond .eq 28, 3) := by decide +kernel
theorem dX7_see_27 : decode cX7_see 27 = .ok (.iload_n 3, 1) := by decide +kernel
theorem dX7_see_28 : decode cX7_see 28 = .ok (.i2l, 1) := by decide +kernel
theorem dX7_see_29 : decode cX7_see 29 = .ok (.lconst 0, 1) := by decide +kernel
theorem dX7_see_30 : decode cX7_see 30 = .ok (.ldc2_w 169, 3) := by decide +kernel
theorem dX7_see_33 : decode cX7_see 33 = .ok (.invokestatic 66, 3) := by decide +kernel
theorem dX7_see_36 : decode cX7_see 36 = .ok (.ifCond .eq 16, 3) := by decide +kernel
theorem dX7_see_39 : decode cX7_see 39 = .ok (.iload 4, 2) := by decide +kernel
theorem dX7_see_41 : decode cX7_see 41 = .ok (.i2l, 1) := by decide +kernel
theorem dX7_see_42 : decode cX7_see 42 = .ok (.lconst 0, 1) := by decide +kernel
theorem dX7_see_43 : decode cX7_see 43 = .ok (.ldc2_w 171, 3) := by decide +kernel
theorem dX7_see_46 : decode cX7_see 46 = .ok (.invokestatic 66, 3) := by decide +kernel
theorem dX7_see_49 : decode cX7_see 49 = .ok (.ifCond .ne 6, 3) := by decide +kernel
theorem dX7_see_52 : decode cX7_see 52 = .ok (.bipush (-2), 2) := by decide +kernel
theorem dX7_see_54 : decode cX7_see 54 = .ok (.ireturn, 1) := by decide +kernel
theorem dX7_see_55 : decode cX7_see 55 = .ok (.aload_n 0, 1) := by decide +kernel
theorem dX7_see_56 : decode cX7_see 56 = .ok (.getfield 106, 3) := by decide +kernel
theorem dX7_see_59 : decode cX7_see 59 = .ok (.bipush 6, 2) := by decide +kernel
theorem dX7_see_61 : decode cX7_see 61 = .ok (.if_icmp .ne 6, 3) := by decide +kernel
theorem dX7_see_64 : decode cX7_see 64 = .ok (.bipush (-4), 2) := by decide +kernel
theorem dX7_see_66 : decode cX7_see 66 = .ok (.ireturn, 1) := by decide +kernel
theorem dX7_see_67 : decode cX7_see 67 = .ok (.aload_n 0, 1) := by decide +kernel
theorem dX7_see_68 : decode cX7_see 68 = .ok (.getfield 41, 3) := by decide +kernel
theorem dX7_see_71 : decode cX7_see 71 = .ok (.aload_n 0, 1) := by decide +kernel
theorem dX7_see_72 : decode cX7_see 72 = .ok (.getfield 106, 3) := by decide +kernel
theorem dX7_see_75 : decode cX7_see 75 = .ok (.iload_n 1, 1) := by decide +kernel
theorem dX7_see_76 : decode cX7_see 76 = .ok (.iastore, 1) := by decide +kernel
theorem dX7_see_77 : decode cX7_see 77 = .ok (.aload_n 0, 1) := by decide +kernel
theorem dX7_see_78 : decode cX7_see 78 = .ok (.getfield 44, 3) := by decide +kernel
theorem dX7_see_81 : decode cX7_see 81 = .ok (.aload_n 0, 1) := by decide +kernel
theorem dX7_see_82 : decode cX7_see 82 = .ok (.getfield 106, 3) := by decide +kernel
theorem dX7_see_85 : decode cX7_see 85 = .ok (.iload_n 2, 1) := by decide +kernel
theorem dX7_see_86 : decode cX7_see 86 = .ok (.iastore, 1) := by decide +kernel
theorem dX7_see_87 : decode cX7_see 87 = .ok (.aload_n 0, 1) := by decide +kernel
theorem dX7_see_88 : decode cX7_see 88 = .ok (.getfield 47, 3) := by decide +kernel
theorem dX7_see_91 : decode cX7_see 91 = .ok (.aload_n 0, 1) := by decide +kernel
theorem dX7_see_92 : decode cX7_see 92 = .ok (.getfield 106, 3) := by decide +kernel
theorem dX7_see_95 : decode cX7_see 95 = .ok (.iload_n 3, 1) := by decide +kernel
theorem dX7_see_96 : decode cX7_see 96 = .ok (.iastore, 1) := by decide +kernel
theorem dX7_see_97 : decode cX7_see 97 = .ok (.aload_n 0, 1) := by decide +kernel
theorem dX7_see_98 : decode cX7_see 98 = .ok (.getfield 50, 3) := by decide +kernel
theorem dX7_see_101 : decode cX7_see 101 = .ok (.aload_n 0, 1) := by decide +kernel
theorem dX7_see_102 : decode cX7_see 102 = .ok (.getfield 106, 3) := by decide +kernel
theorem dX7_see_105 : decode cX7_see 105 = .ok (.iload 4, 2) := by decide +kernel
theorem dX7_see_107 : decode cX7_see 107 = .ok (.iastore, 1) := by decide +kernel
theorem dX7_see_108 : decode cX7_see 108 = .ok (.aload_n 0, 1) := by decide +kernel
theorem dX7_see_109 : decode cX7_see 109 = .ok (.dup, 1) := by decide +kernel
theorem dX7_see_110 : decode cX7_see 110 = .ok (.getfield 106, 3) := by decide +kernel
theorem dX7_see_113 : decode cX7_see 113 = .ok (.iconst 1, 1) := by decide +kernel
theorem dX7_see_114 : decode cX7_see 114 = .ok (.iadd, 1) := by decide +kernel
theorem dX7_see_115 : decode cX7_see 115 = .ok (.putfield 106, 3) := by decide +kernel
theorem dX7_see_118 : decode cX7_see 118 = .ok (.aload_n 0, 1) := by decide +kernel
theorem dX7_see_119 : decode cX7_see 119 = .ok (.getfield 106, 3) := by decide +kernel
theorem dX7_see_122 : decode cX7_see 122 = .ok (.ireturn, 1) := by decide +kernel
theorem dX7_unsee_0 : decode cX7_unsee 0 = .ok (.aload_n 0, 1) := by decide +kernel
theorem dX7_unsee_1 : decode cX7_unsee 1 = .ok (.iconst 0, 1) := by decide +kernel
theorem dX7_unsee_2 : decode cX7_unsee 2 = .ok (.putfield 59, 3) := by decide +kernel
theorem dX7_unsee_5 : decode cX7_unsee 5 = .ok (.aload_n 0, 1) := by decide +kernel
theorem dX7_unsee_6 : decode cX7_unsee 6 = .ok (.getfield 106, 3) := by decide +kernel
theorem dX7_unsee_9 : decode cX7_unsee 9 = .ok (.istore_n 1, 1) := by decide +kernel
theorem dX7_unsee_10 : decode cX7_unsee 10 = .ok (.aload_n 0, 1) := by decide +kernel
theorem dX7_unsee_11 : decode cX7_unsee 11 = .ok (.iconst 0, 1) := by decide +kernel
theorem dX7_unsee_12 : decode cX7_unsee 12 = .ok (.putfield 106, 3) := by decide +kernel
theorem dX7_unsee_15 : decode cX7_unsee 15 = .ok (.iload_n 1, 1) := by decide +kernel
theorem dX7_unsee_16 : decode cX7_unsee 16 = .ok (.ireturn, 1) := by decide +kernel
theorem dX7_shapes_0 : decode cX7_shapes 0 = .ok (.aload_n 0, 1) := by decide +kernel
theorem dX7_shapes_1 : decode cX7_shapes 1 = .ok (.iconst 0, 1) := by decide +kernel
theorem dX7_shapes_2 : decode cX7_shapes 2 = .ok (.putfield 59, 3) := by decide +kernel
theorem dX7_shapes_5 : decode cX7_shapes 5 = .ok (.aload_n 0, 1) := by decide +kernel
theorem dX7_shapes_6 : decode cX7_shapes 6 = .ok (.iload_n 1, 1) := by decide +kernel
theorem dX7_shapes_7 : decode cX7_shapes 7 = .ok (.invokevirtual 109, 3) := by decide +kernel
theorem dX7_shapes_10 : decode cX7_shapes 10 = .ok (.ifCond .eq 5, 3) := by decide +kernel
theorem dX7_shapes_13 : decode cX7_shapes 13 = .ok (.iconst (-1), 1) := by decide +kernel
theorem dX7_shapes_14 : decode cX7_shapes 14 = .ok (.ireturn, 1) := by decide +kernel
theorem dX7_shapes_15 : decode cX7_shapes 15 = .ok (.iconst 0, 1) := by decide +kernel
theorem dX7_shapes_16 : decode cX7_shapes 16 = .ok (.istore_n 2, 1) := by decide +kernel
theorem dX7_shapes_17 : decode cX7_shapes 17 = .ok (.iconst 0, 1) := by decide +kernel
theorem dX7_shapes_18 : decode cX7_shapes 18 = .ok (.istore_n 3, 1) := by decide +kernel
theorem dX7_shapes_19 : decode cX7_shapes 19 = .ok (.iload_n 3, 1) := by decide +kernel
theorem dX7_shapes_20 : decode cX7_shapes 20 = .ok (.iconst 4, 1) := by decide +kernel
theorem dX7_shapes_21 : decode cX7_shapes 21 = .ok (.if_icmp .ge 96, 3) := by decide +kernel
theorem dX7_shapes_24 : decode cX7_shapes 24 = .ok (.iconst 1, 1) := by decide +kernel
theorem dX7_shapes_25 : decode cX7_shapes 25 = .ok (.istore 4, 2) := by decide +kernel
theorem dX7_shapes_27 : decode cX7_shapes 27 = .ok (.iconst 0, 1) := by decide +kernel
theorem dX7_shapes_28 : decode cX7_shapes 28 = .ok (.istore 5, 2) := by decide +kernel
theorem dX7_shapes_30 : decode cX7_shapes 30 = .ok (.iload 5, 2) := by decide +kernel
theorem dX7_shapes_32 : decode cX7_shapes 32 = .ok (.aload_n 0, 1) := by decide +kernel
theorem dX7_shapes_33 : decode cX7_shapes 33 = .ok (.getfield 106, 3) := by decide +kernel
theorem dX7_shapes_36 : decode cX7_shapes 36 = .ok (.if_icmp .ge 60, 3) := by decide +kernel
theorem dX7_shapes_39 : decode cX7_shapes 39 = .ok (.iload 4, 2) := by decide +kernel
theorem dX7_shapes_41 : decode cX7_shapes 41 = .ok (.ifCond .eq 46, 3) := by decide +kernel
theorem dX7_shapes_44 : decode cX7_shapes 44 = .ok (.aload_n 0, 1) := by decide +kernel
theorem dX7_shapes_45 : decode cX7_shapes 45 = .ok (.getfield 41, 3) := by decide +kernel
theorem dX7_shapes_48 : decode cX7_shapes 48 = .ok (.iload 5, 2) := by decide +kernel
theorem dX7_shapes_50 : decode cX7_shapes 50 = .ok (.iaload, 1) := by decide +kernel
theorem dX7_shapes_51 : decode cX7_shapes 51 = .ok (.iload_n 1, 1) := by decide +kernel
theorem dX7_shapes_52 : decode cX7_shapes 52 = .ok (.if_icmp .ne 31, 3) := by decide +kernel
theorem dX7_shapes_55 : decode cX7_shapes 55 = .ok (.iload_n 3, 1) := by decide +kernel
theorem dX7_shapes_56 : decode cX7_shapes 56 = .ok (.aload_n 0, 1) := by decide +kernel
theorem dX7_shapes_57 : decode cX7_shapes 57 = .ok (.getfield 44, 3) := by decide +kernel
theorem dX7_shapes_60 : decode cX7_shapes 60 = .ok (.iload 5, 2) := by decide +kernel
theorem dX7_shapes_62 : decode cX7_shapes 62 = .ok (.iaload, 1) := by decide +kernel
theorem dX7_shapes_63 : decode cX7_shapes 63 = .ok (.aload_n 0, 1) := by decide +kernel
theorem dX7_shapes_64 : decode cX7_shapes 64 = .ok (.getfield 47, 3) := by decide +kernel
theorem dX7_shapes_67 : decode cX7_shapes 67 = .ok (.iload 5, 2) := by decide +kernel
theorem dX7_shapes_69 : decode cX7_shapes 69 = .ok (.iaload, 1) := by decide +kernel
theorem dX7_shapes_70 : decode cX7_shapes 70 = .ok (.invokestatic 102, 3) := by decide +kernel
theorem dX7_shapes_73 : decode cX7_shapes 73 = .ok (.aload_n 0, 1) := by decide +kernel
theorem dX7_shapes_74 : decode cX7_shapes 74 = .ok (.getfield 50, 3) := by decide +kernel
theorem dX7_shapes_77 : decode cX7_shapes 77 = .ok (.iload 5, 2) := by decide +kernel
theorem dX7_shapes_79 : decode cX7_shapes 79 = .ok (.iaload, 1) := by decide +kernel
theorem dX7_shapes_80 : decode cX7_shapes 80 = .ok (.if_icmp .ne 7, 3) := by decide +kernel
theorem dX7_shapes_83 : decode cX7_shapes 83 = .ok (.iconst 1, 1) := by decide +kernel
theorem dX7_shapes_84 : decode cX7_shapes 84 = .ok (.goto 4, 3) := by decide +kernel
theorem dX7_shapes_87 : decode cX7_shapes 87 = .ok (.iconst 0, 1) := by decide +kernel
theorem dX7_shapes_88 : decode cX7_shapes 88 = .ok (.istore 4, 2) := by decide +kernel
theorem dX7_shapes_90 : decode cX7_shapes 90 = .ok (.iinc 5 1, 3) := by decide +kernel
theorem dX7_shapes_93 : decode cX7_shapes 93 = .ok (.goto (-63), 3) := by decide +kernel
theorem dX7_shapes_96 : decode cX7_shapes 96 = .ok (.iload_n 2, 1) := by decide +kernel
theorem dX7_shapes_97 : decode cX7_shapes 97 = .ok (.iload 4, 2) := by decide +kernel
theorem dX7_shapes_99 : decode cX7_shapes 99 = .ok (.ifCond .eq 9, 3) := by decide +kernel
theorem dX7_shapes_102 : decode cX7_shapes 102 = .ok (.iconst 1, 1) := by decide +kernel
theorem dX7_shapes_103 : decode cX7_shapes 103 = .ok (.iload_n 3, 1) := by decide +kernel
theorem dX7_shapes_104 : decode cX7_shapes 104 = .ok (.ishl, 1) := by decide +kernel
theorem dX7_shapes_105 : decode cX7_shapes 105 = .ok (.goto 4, 3) := by decide +kernel
theorem dX7_shapes_108 : decode cX7_shapes 108 = .ok (.iconst 0, 1) := by decide +kernel
theorem dX7_shapes_109 : decode cX7_shapes 109 = .ok (.ior, 1) := by decide +kernel
theorem dX7_shapes_110 : decode cX7_shapes 110 = .ok (.istore_n 2, 1) := by decide +kernel
theorem dX7_shapes_111 : decode cX7_shapes 111 = .ok (.iinc 3 1, 3) := by decide +kernel
theorem dX7_shapes_114 : decode cX7_shapes 114 = .ok (.goto (-95), 3) := by decide +kernel
theorem dX7_shapes_117 : decode cX7_shapes 117 = .ok (.iload_n 2, 1) := by decide +kernel
theorem dX7_shapes_118 : decode cX7_shapes 118 = .ok (.ireturn, 1) := by decide +kernel
theorem dX7_holds_0 : decode cX7_holds 0 = .ok (.aload_n 0, 1) := by decide +kernel
theorem dX7_holds_1 : decode cX7_holds 1 = .ok (.aload_n 0, 1) := by decide +kernel
theorem dX7_holds_2 : decode cX7_holds 2 = .ok (.getfield 22, 3) := by decide +kernel
theorem dX7_holds_5 : decode cX7_holds 5 = .ok (.iload_n 1, 1) := by decide +kernel
theorem dX7_holds_6 : decode cX7_holds 6 = .ok (.aload_n 0, 1) := by decide +kernel
theorem dX7_holds_7 : decode cX7_holds 7 = .ok (.getfield 22, 3) := by decide +kernel
theorem dX7_holds_10 : decode cX7_holds 10 = .ok (.iconst 2, 1) := by decide +kernel
theorem dX7_holds_11 : decode cX7_holds 11 = .ok (.iaload, 1) := by decide +kernel
theorem dX7_holds_12 : decode cX7_holds 12 = .ok (.invokevirtual 117, 3) := by decide +kernel
theorem dX7_holds_15 : decode cX7_holds 15 = .ok (.istore_n 3, 1) := by decide +kernel
theorem dX7_holds_16 : decode cX7_holds 16 = .ok (.iload_n 1, 1) := by decide +kernel
theorem dX7_holds_17 : decode cX7_holds 17 = .ok (.iload_n 2, 1) := by decide +kernel
theorem dX7_holds_18 : decode cX7_holds 18 = .ok (.if_icmp .ne 9, 3) := by decide +kernel
theorem dX7_holds_21 : decode cX7_holds 21 = .ok (.iload_n 3, 1) := by decide +kernel
theorem dX7_holds_22 : decode cX7_holds 22 = .ok (.iconst 2, 1) := by decide +kernel
theorem dX7_holds_23 : decode cX7_holds 23 = .ok (.idiv, 1) := by decide +kernel
theorem dX7_holds_24 : decode cX7_holds 24 = .ok (.goto 4, 3) := by decide +kernel
theorem dX7_holds_27 : decode cX7_holds 27 = .ok (.iload_n 3, 1) := by decide +kernel
theorem dX7_holds_28 : decode cX7_holds 28 = .ok (.ireturn, 1) := by decide +kernel
theorem dX7_findRests_0 : decode cX7_findRests 0 = .ok (.aload_n 0, 1) := by decide +kernel
theorem dX7_findRests_1 : decode cX7_findRests 1 = .ok (.iconst 0, 1) := by decide +kernel
theorem dX7_findRests_2 : decode cX7_findRests 2 = .ok (.putfield 173, 3) := by decide +kernel
theorem dX7_findRests_5 : decode cX7_findRests 5 = .ok (.aload_n 0, 1) := by decide +kernel
theorem dX7_findRests_6 : decode cX7_findRests 6 = .ok (.bipush (-9), 2) := by decide +kernel
theorem dX7_findRests_8 : decode cX7_findRests 8 = .ok (.putfield 176, 3) := by decide +kernel
theorem dX7_findRests_11 : decode cX7_findRests 11 = .ok (.iconst 0, 1) := by decide +kernel
theorem dX7_findRests_12 : decode cX7_findRests 12 = .ok (.istore_n 1, 1) := by decide +kernel
theorem dX7_findRests_13 : decode cX7_findRests 13 = .ok (.iload_n 1, 1) := by decide +kernel
theorem dX7_findRests_14 : decode cX7_findRests 14 = .ok (.aload_n 0, 1) := by decide +kernel
theorem dX7_findRests_15 : decode cX7_findRests 15 = .ok (.getfield 63, 3) := by decide +kernel
theorem dX7_findRests_18 : decode cX7_findRests 18 = .ok (.if_icmp .ge 133, 3) := by decide +kernel
theorem dX7_findRests_21 : decode cX7_findRests 21 = .ok (.iconst 0, 1) := by decide +kernel
theorem dX7_findRests_22 : decode cX7_findRests 22 = .ok (.istore_n 2, 1) := by decide +kernel
theorem dX7_findRests_23 : decode cX7_findRests 23 = .ok (.iload_n 2, 1) := by decide +kernel
theorem dX7_findRests_24 : decode cX7_findRests 24 = .ok (.aload_n 0, 1) := by decide +kernel
theorem dX7_findRests_25 : decode cX7_findRests 25 = .ok (.getfield 63, 3) := by decide +kernel
theorem dX7_findRests_28 : decode cX7_findRests 28 = .ok (.if_icmp .ge 117, 3) := by decide +kernel
theorem dX7_findRests_31 : decode cX7_findRests 31 = .ok (.iconst 1, 1) := by decide +kernel
theorem dX7_findRests_32 : decode cX7_findRests 32 = .ok (.istore_n 3, 1) := by decide +kernel
theorem dX7_findRests_33 : decode cX7_findRests 33 = .ok (.iconst 0, 1) := by decide +kernel
theorem dX7_findRests_34 : decode cX7_findRests 34 = .ok (.istore 4, 2) := by decide +kernel
theorem dX7_findRests_36 : decode cX7_findRests 36 = .ok (.iload 4, 2) := by decide +kernel
theorem dX7_findRests_38 : decode cX7_findRests 38 = .ok (.aload_n 0, 1) := by decide +kernel
theorem dX7_findRests_39 : decode cX7_findRests 39 = .ok (.getfield 63, 3) := by decide +kernel
theorem dX7_findRests_42 : decode cX7_findRests 42 = .ok (.if_icmp .ge 51, 3) := by decide +kernel
theorem dX7_findRests_45 : decode cX7_findRests 45 = .ok (.iload_n 3, 1) := by decide +kernel
theorem dX7_findRests_46 : decode cX7_findRests 46 = .ok (.ifCond .eq 39, 3) := by decide +kernel
theorem dX7_findRests_49 : decode cX7_findRests 49 = .ok (.aload_n 0, 1) := by decide +kernel
theorem dX7_findRests_50 : decode cX7_findRests 50 = .ok (.iload 4, 2) := by decide +kernel
theorem dX7_findRests_52 : decode cX7_findRests 52 = .ok (.iload_n 2, 1) := by decide +kernel
theorem dX7_findRests_53 : decode cX7_findRests 53 = .ok (.invokevirtual 179, 3) := by decide +kernel
theorem dX7_findRests_56 : decode cX7_findRests 56 = .ok (.aload_n 0, 1) := by decide +kernel
theorem dX7_findRests_57 : decode cX7_findRests 57 = .ok (.iload_n 1, 1) := by decide +kernel
theorem dX7_findRests_58 : decode cX7_findRests 58 = .ok (.iload_n 2, 1) := by decide +kernel
theorem dX7_findRests_59 : decode cX7_findRests 59 = .ok (.invokevirtual 179, 3) := by decide +kernel
theorem dX7_findRests_62 : decode cX7_findRests 62 = .ok (.if_icmp .gt 23, 3) := by decide +kernel
theorem dX7_findRests_65 : decode cX7_findRests 65 = .ok (.aload_n 0, 1) := by decide +kernel
theorem dX7_findRests_66 : decode cX7_findRests 66 = .ok (.iload 4, 2) := by decide +kernel
theorem dX7_findRests_68 : decode cX7_findRests 68 = .ok (.iload_n 1, 1) := by decide +kernel
theorem dX7_findRests_69 : decode cX7_findRests 69 = .ok (.invokevirtual 179, 3) := by decide +kernel
theorem dX7_findRests_72 : decode cX7_findRests 72 = .ok (.aload_n 0, 1) := by decide +kernel
theorem dX7_findRests_73 : decode cX7_findRests 73 = .ok (.iload_n 2, 1) := by decide +kernel
theorem dX7_findRests_74 : decode cX7_findRests 74 = .ok (.iload_n 1, 1) := by decide +kernel
theorem dX7_findRests_75 : decode cX7_findRests 75 = .ok (.invokevirtual 179, 3) := by decide +kernel
theorem dX7_findRests_78 : decode cX7_findRests 78 = .ok (.if_icmp .gt 7, 3) := by decide +kernel
theorem dX7_findRests_81 : decode cX7_findRests 81 = .ok (.iconst 1, 1) := by decide +kernel
theorem dX7_findRests_82 : decode cX7_findRests 82 = .ok (.goto 4, 3) := by decide +kernel
theorem dX7_findRests_85 : decode cX7_findRests 85 = .ok (.iconst 0, 1) := by decide +kernel
theorem dX7_findRests_86 : decode cX7_findRests 86 = .ok (.istore_n 3, 1) := by decide +kernel
theorem dX7_findRests_87 : decode cX7_findRests 87 = .ok (.iinc 4 1, 3) := by decide +kernel
theorem dX7_findRests_90 : decode cX7_findRests 90 = .ok (.goto (-54), 3) := by decide +kernel
theorem dX7_findRests_93 : decode cX7_findRests 93 = .ok (.aload_n 0, 1) := by decide +kernel
theorem dX7_findRests_94 : decode cX7_findRests 94 = .ok (.iload_n 3, 1) := by decide +kernel
theorem dX7_findRests_95 : decode cX7_findRests 95 = .ok (.ifCond .eq 19, 3) := by decide +kernel
theorem dX7_findRests_98 : decode cX7_findRests 98 = .ok (.aload_n 0, 1) := by decide +kernel
theorem dX7_findRests_99 : decode cX7_findRests 99 = .ok (.getfield 173, 3) := by decide +kernel
theorem dX7_findRests_102 : decode cX7_findRests 102 = .ok (.ifCond .ne 12, 3) := by decide +kernel
theorem dX7_findRests_105 : decode cX7_findRests 105 = .ok (.bipush 10, 2) := by decide +kernel
theorem dX7_findRests_107 : decode cX7_findRests 107 = .ok (.iload_n 1, 1) := by decide +kernel
theorem dX7_findRests_108 : decode cX7_findRests 108 = .ok (.imul, 1) := by decide +kernel
theorem dX7_findRests_109 : decode cX7_findRests 109 = .ok (.iload_n 2, 1) := by decide +kernel
theorem dX7_findRests_110 : decode cX7_findRests 110 = .ok (.iadd, 1) := by decide +kernel
theorem dX7_findRests_111 : decode cX7_findRests 111 = .ok (.goto 7, 3) := by decide +kernel
theorem dX7_findRests_114 : decode cX7_findRests 114 = .ok (.aload_n 0, 1) := by decide +kernel
theorem dX7_findRests_115 : decode cX7_findRests 115 = .ok (.getfield 176, 3) := by decide +kernel
theorem dX7_findRests_118 : decode cX7_findRests 118 = .ok (.putfield 176, 3) := by decide +kernel
theorem dX7_findRests_121 : decode cX7_findRests 121 = .ok (.aload_n 0, 1) := by decide +kernel
theorem dX7_findRests_122 : decode cX7_findRests 122 = .ok (.dup, 1) := by decide +kernel
theorem dX7_findRests_123 : decode cX7_findRests 123 = .ok (.getfield 173, 3) := by decide +kernel
theorem dX7_findRests_126 : decode cX7_findRests 126 = .ok (.iload_n 3, 1) := by decide +kernel
theorem dX7_findRests_127 : decode cX7_findRests 127 = .ok (.ifCond .eq 7, 3) := by decide +kernel
theorem dX7_findRests_130 : decode cX7_findRests 130 = .ok (.iconst 1, 1) := by decide +kernel
theorem dX7_findRests_131 : decode cX7_findRests 131 = .ok (.goto 4, 3) := by decide +kernel
theorem dX7_findRests_134 : decode cX7_findRests 134 = .ok (.iconst 0, 1) := by decide +kernel
theorem dX7_findRests_135 : decode cX7_findRests 135 = .ok (.iadd, 1) := by decide +kernel
theorem dX7_findRests_136 : decode cX7_findRests 136 = .ok (.putfield 173, 3) := by decide +kernel
theorem dX7_findRests_139 : decode cX7_findRests 139 = .ok (.iinc 2 1, 3) := by decide +kernel
theorem dX7_findRests_142 : decode cX7_findRests 142 = .ok (.goto (-119), 3) := by decide +kernel
theorem dX7_findRests_145 : decode cX7_findRests 145 = .ok (.iinc 1 1, 3) := by decide +kernel
theorem dX7_findRests_148 : decode cX7_findRests 148 = .ok (.goto (-135), 3) := by decide +kernel
theorem dX7_findRests_151 : decode cX7_findRests 151 = .ok (.return_, 1) := by decide +kernel
theorem dX7_rests_0 : decode cX7_rests 0 = .ok (.aload_n 0, 1) := by decide +kernel
theorem dX7_rests_1 : decode cX7_rests 1 = .ok (.iconst 0, 1) := by decide +kernel
theorem dX7_rests_2 : decode cX7_rests 2 = .ok (.putfield 59, 3) := by decide +kernel
theorem dX7_rests_5 : decode cX7_rests 5 = .ok (.iload_n 1, 1) := by decide +kernel
theorem dX7_rests_6 : decode cX7_rests 6 = .ok (.i2l, 1) := by decide +kernel
theorem dX7_rests_7 : decode cX7_rests 7 = .ok (.lconst 0, 1) := by decide +kernel
theorem dX7_rests_8 : decode cX7_rests 8 = .ok (.lconst 1, 1) := by decide +kernel
theorem dX7_rests_9 : decode cX7_rests 9 = .ok (.invokestatic 66, 3) := by decide +kernel
theorem dX7_rests_12 : decode cX7_rests 12 = .ok (.ifCond .ne 6, 3) := by decide +kernel
theorem dX7_rests_15 : decode cX7_rests 15 = .ok (.bipush (-2), 2) := by decide +kernel
theorem dX7_rests_17 : decode cX7_rests 17 = .ok (.ireturn, 1) := by decide +kernel
theorem dX7_rests_18 : decode cX7_rests 18 = .ok (.aload_n 0, 1) := by decide +kernel
theorem dX7_rests_19 : decode cX7_rests 19 = .ok (.invokevirtual 182, 3) := by decide +kernel
theorem dX7_rests_22 : decode cX7_rests 22 = .ok (.iload_n 1, 1) := by decide +kernel
theorem dX7_rests_23 : decode cX7_rests 23 = .ok (.ifCond .ne 10, 3) := by decide +kernel
theorem dX7_rests_26 : decode cX7_rests 26 = .ok (.aload_n 0, 1) := by decide +kernel
theorem dX7_rests_27 : decode cX7_rests 27 = .ok (.getfield 173, 3) := by decide +kernel
theorem dX7_rests_30 : decode cX7_rests 30 = .ok (.goto 7, 3) := by decide +kernel
theorem dX7_rests_33 : decode cX7_rests 33 = .ok (.aload_n 0, 1) := by decide +kernel
theorem dX7_rests_34 : decode cX7_rests 34 = .ok (.getfield 176, 3) := by decide +kernel
theorem dX7_rests_37 : decode cX7_rests 37 = .ok (.ireturn, 1) := by decide +kernel
theorem dX7_layLooks_0 : decode cX7_layLooks 0 = .ok (.aload_n 0, 1) := by decide +kernel
theorem dX7_layLooks_1 : decode cX7_layLooks 1 = .ok (.getfield 22, 3) := by decide +kernel
theorem dX7_layLooks_4 : decode cX7_layLooks 4 = .ok (.aload_n 0, 1) := by decide +kernel
theorem dX7_layLooks_5 : decode cX7_layLooks 5 = .ok (.getfield 25, 3) := by decide +kernel
theorem dX7_layLooks_8 : decode cX7_layLooks 8 = .ok (.invokestatic 142, 3) := by decide +kernel
theorem dX7_layLooks_11 : decode cX7_layLooks 11 = .ok (.aload_n 0, 1) := by decide +kernel
theorem dX7_layLooks_12 : decode cX7_layLooks 12 = .ok (.iconst 0, 1) := by decide +kernel
theorem dX7_layLooks_13 : decode cX7_layLooks 13 = .ok (.putfield 185, 3) := by decide +kernel
theorem dX7_layLooks_16 : decode cX7_layLooks 16 = .ok (.iconst 1, 1) := by decide +kernel
theorem dX7_layLooks_17 : decode cX7_layLooks 17 = .ok (.istore_n 3, 1) := by decide +kernel
theorem dX7_layLooks_18 : decode cX7_layLooks 18 = .ok (.iload_n 1, 1) := by decide +kernel
theorem dX7_layLooks_19 : decode cX7_layLooks 19 = .ok (.iconst 1, 1) := by decide +kernel
theorem dX7_layLooks_20 : decode cX7_layLooks 20 = .ok (.isub, 1) := by decide +kernel
theorem dX7_layLooks_21 : decode cX7_layLooks 21 = .ok (.istore 4, 2) := by decide +kernel
theorem dX7_layLooks_23 : decode cX7_layLooks 23 = .ok (.iload 4, 2) := by decide +kernel
theorem dX7_layLooks_25 : decode cX7_layLooks 25 = .ok (.ifCond .lt 89, 3) := by decide +kernel
theorem dX7_layLooks_28 : decode cX7_layLooks 28 = .ok (.iload_n 3, 1) := by decide +kernel
theorem dX7_layLooks_29 : decode cX7_layLooks 29 = .ok (.ifCond .eq 85, 3) := by decide +kernel
theorem dX7_layLooks_32 : decode cX7_layLooks 32 = .ok (.iload_n 2, 1) := by decide +kernel
theorem dX7_layLooks_33 : decode cX7_layLooks 33 = .ok (.bipush 10, 2) := by decide +kernel
theorem dX7_layLooks_35 : decode cX7_layLooks 35 = .ok (.iload 4, 2) := by decide +kernel
theorem dX7_layLooks_37 : decode cX7_layLooks 37 = .ok (.invokestatic 138, 3) := by decide +kernel
theorem dX7_layLooks_40 : decode cX7_layLooks 40 = .ok (.idiv, 1) := by decide +kernel
theorem dX7_layLooks_41 : decode cX7_layLooks 41 = .ok (.bipush 10, 2) := by decide +kernel
theorem dX7_layLooks_43 : decode cX7_layLooks 43 = .ok (.irem, 1) := by decide +kernel
theorem dX7_layLooks_44 : decode cX7_layLooks 44 = .ok (.istore 5, 2) := by decide +kernel
theorem dX7_layLooks_46 : decode cX7_layLooks 46 = .ok (.aload_n 0, 1) := by decide +kernel
theorem dX7_layLooks_47 : decode cX7_layLooks 47 = .ok (.aload_n 0, 1) := by decide +kernel
theorem dX7_layLooks_48 : decode cX7_layLooks 48 = .ok (.getfield 25, 3) := by decide +kernel
theorem dX7_layLooks_51 : decode cX7_layLooks 51 = .ok (.iload 5, 2) := by decide +kernel
theorem dX7_layLooks_53 : decode cX7_layLooks 53 = .ok (.invokevirtual 121, 3) := by decide +kernel
theorem dX7_layLooks_56 : decode cX7_layLooks 56 = .ok (.istore_n 3, 1) := by decide +kernel
theorem dX7_layLooks_57 : decode cX7_layLooks 57 = .ok (.iload_n 3, 1) := by decide +kernel
theorem dX7_layLooks_58 : decode cX7_layLooks 58 = .ok (.ifCond .eq 16, 3) := by decide +kernel
theorem dX7_layLooks_61 : decode cX7_layLooks 61 = .ok (.aload_n 0, 1) := by decide +kernel
theorem dX7_layLooks_62 : decode cX7_layLooks 62 = .ok (.aload_n 0, 1) := by decide +kernel
theorem dX7_layLooks_63 : decode cX7_layLooks 63 = .ok (.getfield 25, 3) := by decide +kernel
theorem dX7_layLooks_66 : decode cX7_layLooks 66 = .ok (.iload 5, 2) := by decide +kernel
theorem dX7_layLooks_68 : decode cX7_layLooks 68 = .ok (.invokevirtual 128, 3) := by decide +kernel
theorem dX7_layLooks_71 : decode cX7_layLooks 71 = .ok (.goto 4, 3) := by decide +kernel
theorem dX7_layLooks_74 : decode cX7_layLooks 74 = .ok (.iconst 0, 1) := by decide +kernel
theorem dX7_layLooks_75 : decode cX7_layLooks 75 = .ok (.istore 6, 2) := by decide +kernel
theorem dX7_layLooks_77 : decode cX7_layLooks 77 = .ok (.iload_n 3, 1) := by decide +kernel
theorem dX7_layLooks_78 : decode cX7_layLooks 78 = .ok (.ifCond .eq 30, 3) := by decide +kernel
theorem dX7_layLooks_81 : decode cX7_layLooks 81 = .ok (.iload 5, 2) := by decide +kernel
theorem dX7_layLooks_83 : decode cX7_layLooks 83 = .ok (.iconst 2, 1) := by decide +kernel
theorem dX7_layLooks_84 : decode cX7_layLooks 84 = .ok (.if_icmp .ne 24, 3) := by decide +kernel
theorem dX7_layLooks_87 : decode cX7_layLooks 87 = .ok (.aload_n 0, 1) := by decide +kernel
theorem dX7_layLooks_88 : decode cX7_layLooks 88 = .ok (.getfield 56, 3) := by decide +kernel
theorem dX7_layLooks_91 : decode cX7_layLooks 91 = .ok (.aload_n 0, 1) := by decide +kernel
theorem dX7_layLooks_92 : decode cX7_layLooks 92 = .ok (.getfield 185, 3) := by decide +kernel
theorem dX7_layLooks_95 : decode cX7_layLooks 95 = .ok (.iload 6, 2) := by decide +kernel
theorem dX7_layLooks_97 : decode cX7_layLooks 97 = .ok (.iastore, 1) := by decide +kernel
theorem dX7_layLooks_98 : decode cX7_layLooks 98 = .ok (.aload_n 0, 1) := by decide +kernel
theorem dX7_layLooks_99 : decode cX7_layLooks 99 = .ok (.dup, 1) := by decide +kernel
theorem dX7_layLooks_100 : decode cX7_layLooks 100 = .ok (.getfield 185, 3) := by decide +kernel
theorem dX7_layLooks_103 : decode cX7_layLooks 103 = .ok (.iconst 1, 1) := by decide +kernel
theorem dX7_layLooks_104 : decode cX7_layLooks 104 = .ok (.iadd, 1) := by decide +kernel
theorem dX7_layLooks_105 : decode cX7_layLooks 105 = .ok (.putfield 185, 3) := by decide +kernel
theorem dX7_layLooks_108 : decode cX7_layLooks 108 = .ok (.iinc 4 (-1), 3) := by decide +kernel
theorem dX7_layLooks_111 : decode cX7_layLooks 111 = .ok (.goto (-88), 3) := by decide +kernel
theorem dX7_layLooks_114 : decode cX7_layLooks 114 = .ok (.iload_n 3, 1) := by decide +kernel
theorem dX7_layLooks_115 : decode cX7_layLooks 115 = .ok (.ireturn, 1) := by decide +kernel
theorem dX7_chance_0 : decode cX7_chance 0 = .ok (.aload_n 0, 1) := by decide +kernel
theorem dX7_chance_1 : decode cX7_chance 1 = .ok (.iconst 0, 1) := by decide +kernel
theorem dX7_chance_2 : decode cX7_chance 2 = .ok (.putfield 59, 3) := by decide +kernel
theorem dX7_chance_5 : decode cX7_chance 5 = .ok (.iload_n 1, 1) := by decide +kernel
theorem dX7_chance_6 : decode cX7_chance 6 = .ok (.bipush 6, 2) := by decide +kernel
theorem dX7_chance_8 : decode cX7_chance 8 = .ok (.iload_n 2, 1) := by decide +kernel
theorem dX7_chance_9 : decode cX7_chance 9 = .ok (.invokestatic 155, 3) := by decide +kernel
theorem dX7_chance_12 : decode cX7_chance 12 = .ok (.ifCond .ne 28, 3) := by decide +kernel
theorem dX7_chance_15 : decode cX7_chance 15 = .ok (.iload_n 3, 1) := by decide +kernel
theorem dX7_chance_16 : decode cX7_chance 16 = .ok (.i2l, 1) := by decide +kernel
theorem dX7_chance_17 : decode cX7_chance 17 = .ok (.lconst 0, 1) := by decide +kernel
theorem dX7_chance_18 : decode cX7_chance 18 = .ok (.ldc2_w 115, 3) := by decide +kernel
theorem dX7_chance_21 : decode cX7_chance 21 = .ok (.invokestatic 66, 3) := by decide +kernel
theorem dX7_chance_24 : decode cX7_chance 24 = .ok (.ifCond .eq 16, 3) := by decide +kernel
theorem dX7_chance_27 : decode cX7_chance 27 = .ok (.iload 4, 2) := by decide +kernel
theorem dX7_chance_29 : decode cX7_chance 29 = .ok (.i2l, 1) := by decide +kernel
theorem dX7_chance_30 : decode cX7_chance 30 = .ok (.lconst 0, 1) := by decide +kernel
theorem dX7_chance_31 : decode cX7_chance 31 = .ok (.ldc2_w 171, 3) := by decide +kernel
theorem dX7_chance_34 : decode cX7_chance 34 = .ok (.invokestatic 66, 3) := by decide +kernel
theorem dX7_chance_37 : decode cX7_chance 37 = .ok (.ifCond .ne 6, 3) := by decide +kernel
theorem dX7_chance_40 : decode cX7_chance 40 = .ok (.bipush (-2), 2) := by decide +kernel
theorem dX7_chance_42 : decode cX7_chance 42 = .ok (.ireturn, 1) := by decide +kernel
theorem dX7_chance_43 : decode cX7_chance 43 = .ok (.aload_n 0, 1) := by decide +kernel
theorem dX7_chance_44 : decode cX7_chance 44 = .ok (.iload_n 1, 1) := by decide +kernel
theorem dX7_chance_45 : decode cX7_chance 45 = .ok (.iload_n 2, 1) := by decide +kernel
theorem dX7_chance_46 : decode cX7_chance 46 = .ok (.invokevirtual 188, 3) := by decide +kernel
theorem dX7_chance_49 : decode cX7_chance 49 = .ok (.ifCond .ne 14, 3) := by decide +kernel
theorem dX7_chance_52 : decode cX7_chance 52 = .ok (.iload 5, 2) := by decide +kernel
theorem dX7_chance_54 : decode cX7_chance 54 = .ok (.ifCond .eq 7, 3) := by decide +kernel
theorem dX7_chance_57 : decode cX7_chance 57 = .ok (.iconst 0, 1) := by decide +kernel
theorem dX7_chance_58 : decode cX7_chance 58 = .ok (.goto 4, 3) := by decide +kernel
theorem dX7_chance_61 : decode cX7_chance 61 = .ok (.iconst 1, 1) := by decide +kernel
theorem dX7_chance_62 : decode cX7_chance 62 = .ok (.ireturn, 1) := by decide +kernel
theorem dX7_chance_63 : decode cX7_chance 63 = .ok (.iconst 0, 1) := by decide +kernel
theorem dX7_chance_64 : decode cX7_chance 64 = .ok (.istore 6, 2) := by decide +kernel
theorem dX7_chance_66 : decode cX7_chance 66 = .ok (.iconst 0, 1) := by decide +kernel
theorem dX7_chance_67 : decode cX7_chance 67 = .ok (.istore 7, 2) := by decide +kernel
theorem dX7_chance_69 : decode cX7_chance 69 = .ok (.iload 7, 2) := by decide +kernel
theorem dX7_chance_71 : decode cX7_chance 71 = .ok (.iconst 1, 1) := by decide +kernel
theorem dX7_chance_72 : decode cX7_chance 72 = .ok (.aload_n 0, 1) := by decide +kernel
theorem dX7_chance_73 : decode cX7_chance 73 = .ok (.getfield 185, 3) := by decide +kernel
theorem dX7_chance_76 : decode cX7_chance 76 = .ok (.ishl, 1) := by decide +kernel
theorem dX7_chance_77 : decode cX7_chance 77 = .ok (.if_icmp .ge 101, 3) := by decide +kernel
theorem dX7_chance_80 : decode cX7_chance 80 = .ok (.iconst 0, 1) := by decide +kernel
theorem dX7_chance_81 : decode cX7_chance 81 = .ok (.istore 8, 2) := by decide +kernel
theorem dX7_chance_83 : decode cX7_chance 83 = .ok (.iconst 1, 1) := by decide +kernel
theorem dX7_chance_84 : decode cX7_chance 84 = .ok (.istore 9, 2) := by decide +kernel
theorem dX7_chance_86 : decode cX7_chance 86 = .ok (.iconst 0, 1) := by decide +kernel
theorem dX7_chance_87 : decode cX7_chance 87 = .ok (.istore 10, 2) := by decide +kernel
theorem dX7_chance_89 : decode cX7_chance 89 = .ok (.iload 10, 2) := by decide +kernel
theorem dX7_chance_91 : decode cX7_chance 91 = .ok (.aload_n 0, 1) := by decide +kernel
theorem dX7_chance_92 : decode cX7_chance 92 = .ok (.getfield 185, 3) := by decide +kernel
theorem dX7_chance_95 : decode cX7_chance 95 = .ok (.if_icmp .ge 60, 3) := by decide +kernel
theorem dX7_chance_98 : decode cX7_chance 98 = .ok (.iload 8, 2) := by decide +kernel
theorem dX7_chance_100 : decode cX7_chance 100 = .ok (.iload 7, 2) := by decide +kernel
theorem dX7_chance_102 : decode cX7_chance 102 = .ok (.iload 10, 2) := by decide +kernel
theorem dX7_chance_104 : decode cX7_chance 104 = .ok (.invokestatic 98, 3) := by decide +kernel
theorem dX7_chance_107 : decode cX7_chance 107 = .ok (.ifCond .eq 7, 3) := by decide +kernel
theorem dX7_chance_110 : decode cX7_chance 110 = .ok (.iconst 0, 1) := by decide +kernel
theorem dX7_chance_111 : decode cX7_chance 111 = .ok (.goto 10, 3) := by decide +kernel
theorem dX7_chance_114 : decode cX7_chance 114 = .ok (.aload_n 0, 1) := by decide +kernel
theorem dX7_chance_115 : decode cX7_chance 115 = .ok (.getfield 56, 3) := by decide +kernel
theorem dX7_chance_118 : decode cX7_chance 118 = .ok (.iload 10, 2) := by decide +kernel
theorem dX7_chance_120 : decode cX7_chance 120 = .ok (.iaload, 1) := by decide +kernel
theorem dX7_chance_121 : decode cX7_chance 121 = .ok (.iadd, 1) := by decide +kernel
theorem dX7_chance_122 : decode cX7_chance 122 = .ok (.istore 8, 2) := by decide +kernel
theorem dX7_chance_124 : decode cX7_chance 124 = .ok (.iload 9, 2) := by decide +kernel
theorem dX7_chance_126 : decode cX7_chance 126 = .ok (.iload 7, 2) := by decide +kernel
theorem dX7_chance_128 : decode cX7_chance 128 = .ok (.iload 10, 2) := by decide +kernel
theorem dX7_chance_130 : decode cX7_chance 130 = .ok (.invokestatic 98, 3) := by decide +kernel
theorem dX7_chance_133 : decode cX7_chance 133 = .ok (.ifCond .eq 8, 3) := by decide +kernel
theorem dX7_chance_136 : decode cX7_chance 136 = .ok (.iload 4, 2) := by decide +kernel
theorem dX7_chance_138 : decode cX7_chance 138 = .ok (.goto 8, 3) := by decide +kernel
theorem dX7_chance_141 : decode cX7_chance 141 = .ok (.bipush 10, 2) := by decide +kernel
theorem dX7_chance_143 : decode cX7_chance 143 = .ok (.iload 4, 2) := by decide +kernel
theorem dX7_chance_145 : decode cX7_chance 145 = .ok (.isub, 1) := by decide +kernel
theorem dX7_chance_146 : decode cX7_chance 146 = .ok (.imul, 1) := by decide +kernel
theorem dX7_chance_147 : decode cX7_chance 147 = .ok (.istore 9, 2) := by decide +kernel
theorem dX7_chance_149 : decode cX7_chance 149 = .ok (.iinc 10 1, 3) := by decide +kernel
theorem dX7_chance_152 : decode cX7_chance 152 = .ok (.goto (-63), 3) := by decide +kernel
theorem dX7_chance_155 : decode cX7_chance 155 = .ok (.iload 6, 2) := by decide +kernel
theorem dX7_chance_157 : decode cX7_chance 157 = .ok (.iload 8, 2) := by decide +kernel
theorem dX7_chance_159 : decode cX7_chance 159 = .ok (.iload_n 3, 1) := by decide +kernel
theorem dX7_chance_160 : decode cX7_chance 160 = .ok (.if_icmp .lt 8, 3) := by decide +kernel
theorem dX7_chance_163 : decode cX7_chance 163 = .ok (.iload 9, 2) := by decide +kernel
theorem dX7_chance_165 : decode cX7_chance 165 = .ok (.goto 4, 3) := by decide +kernel
theorem dX7_chance_168 : decode cX7_chance 168 = .ok (.iconst 0, 1) := by decide +kernel
theorem dX7_chance_169 : decode cX7_chance 169 = .ok (.iadd, 1) := by decide +kernel
theorem dX7_chance_170 : decode cX7_chance 170 = .ok (.istore 6, 2) := by decide +kernel
theorem dX7_chance_172 : decode cX7_chance 172 = .ok (.iinc 7 1, 3) := by decide +kernel
theorem dX7_chance_175 : decode cX7_chance 175 = .ok (.goto (-106), 3) := by decide +kernel
theorem dX7_chance_178 : decode cX7_chance 178 = .ok (.iload 6, 2) := by decide +kernel
theorem dX7_chance_180 : decode cX7_chance 180 = .ok (.bipush 10, 2) := by decide +kernel
theorem dX7_chance_182 : decode cX7_chance 182 = .ok (.aload_n 0, 1) := by decide +kernel
theorem dX7_chance_183 : decode cX7_chance 183 = .ok (.getfield 185, 3) := by decide +kernel
theorem dX7_chance_186 : decode cX7_chance 186 = .ok (.invokestatic 138, 3) := by decide +kernel
theorem dX7_chance_189 : decode cX7_chance 189 = .ok (.iload 5, 2) := by decide +kernel
theorem dX7_chance_191 : decode cX7_chance 191 = .ok (.invokestatic 165, 3) := by decide +kernel
theorem dX7_chance_194 : decode cX7_chance 194 = .ok (.ireturn, 1) := by decide +kernel
theorem dX7_seed_0 : decode cX7_seed 0 = .ok (.aload_n 0, 1) := by decide +kernel
theorem dX7_seed_1 : decode cX7_seed 1 = .ok (.iconst 0, 1) := by decide +kernel
theorem dX7_seed_2 : decode cX7_seed 2 = .ok (.putfield 59, 3) := by decide +kernel
theorem dX7_seed_5 : decode cX7_seed 5 = .ok (.aload_n 0, 1) := by decide +kernel
theorem dX7_seed_6 : decode cX7_seed 6 = .ok (.getfield 191, 3) := by decide +kernel
theorem dX7_seed_9 : decode cX7_seed 9 = .ok (.lstore_n 3, 1) := by decide +kernel
theorem dX7_seed_10 : decode cX7_seed 10 = .ok (.aload_n 0, 1) := by decide +kernel
theorem dX7_seed_11 : decode cX7_seed 11 = .ok (.lload_n 1, 1) := by decide +kernel
theorem dX7_seed_12 : decode cX7_seed 12 = .ok (.putfield 191, 3) := by decide +kernel
theorem dX7_seed_15 : decode cX7_seed 15 = .ok (.lload_n 3, 1) := by decide +kernel
theorem dX7_seed_16 : decode cX7_seed 16 = .ok (.lreturn, 1) := by decide +kernel
theorem dX7_rounds_0 : decode cX7_rounds 0 = .ok (.aload_n 0, 1) := by decide +kernel
theorem dX7_rounds_1 : decode cX7_rounds 1 = .ok (.iconst 0, 1) := by decide +kernel
theorem dX7_rounds_2 : decode cX7_rounds 2 = .ok (.putfield 59, 3) := by decide +kernel
theorem dX7_rounds_5 : decode cX7_rounds 5 = .ok (.iload_n 1, 1) := by decide +kernel
theorem dX7_rounds_6 : decode cX7_rounds 6 = .ok (.i2l, 1) := by decide +kernel
theorem dX7_rounds_7 : decode cX7_rounds 7 = .ok (.lconst 1, 1) := by decide +kernel
theorem dX7_rounds_8 : decode cX7_rounds 8 = .ok (.ldc2_w 195, 3) := by decide +kernel
theorem dX7_rounds_11 : decode cX7_rounds 11 = .ok (.invokestatic 66, 3) := by decide +kernel
theorem dX7_rounds_14 : decode cX7_rounds 14 = .ok (.ifCond .ne 6, 3) := by decide +kernel
theorem dX7_rounds_17 : decode cX7_rounds 17 = .ok (.bipush (-2), 2) := by decide +kernel
theorem dX7_rounds_19 : decode cX7_rounds 19 = .ok (.ireturn, 1) := by decide +kernel
theorem dX7_rounds_20 : decode cX7_rounds 20 = .ok (.aload_n 0, 1) := by decide +kernel
theorem dX7_rounds_21 : decode cX7_rounds 21 = .ok (.getfield 22, 3) := by decide +kernel
theorem dX7_rounds_24 : decode cX7_rounds 24 = .ok (.aload_n 0, 1) := by decide +kernel
theorem dX7_rounds_25 : decode cX7_rounds 25 = .ok (.getfield 25, 3) := by decide +kernel
theorem dX7_rounds_28 : decode cX7_rounds 28 = .ok (.invokestatic 142, 3) := by decide +kernel
theorem dX7_rounds_31 : decode cX7_rounds 31 = .ok (.iconst 0, 1) := by decide +kernel
theorem dX7_rounds_32 : decode cX7_rounds 32 = .ok (.istore_n 2, 1) := by decide +kernel
theorem dX7_rounds_33 : decode cX7_rounds 33 = .ok (.iload_n 2, 1) := by decide +kernel
theorem dX7_rounds_34 : decode cX7_rounds 34 = .ok (.iload_n 1, 1) := by decide +kernel
theorem dX7_rounds_35 : decode cX7_rounds 35 = .ok (.if_icmp .ge 96, 3) := by decide +kernel
theorem dX7_rounds_38 : decode cX7_rounds 38 = .ok (.aload_n 0, 1) := by decide +kernel
theorem dX7_rounds_39 : decode cX7_rounds 39 = .ok (.aload_n 0, 1) := by decide +kernel
theorem dX7_rounds_40 : decode cX7_rounds 40 = .ok (.getfield 191, 3) := by decide +kernel
theorem dX7_rounds_43 : decode cX7_rounds 43 = .ok (.ldc2_w 197, 3) := by decide +kernel
theorem dX7_rounds_46 : decode cX7_rounds 46 = .ok (.lmul, 1) := by decide +kernel
theorem dX7_rounds_47 : decode cX7_rounds 47 = .ok (.ldc2_w 199, 3) := by decide +kernel
theorem dX7_rounds_50 : decode cX7_rounds 50 = .ok (.ladd, 1) := by decide +kernel
theorem dX7_rounds_51 : decode cX7_rounds 51 = .ok (.putfield 191, 3) := by decide +kernel
theorem dX7_rounds_54 : decode cX7_rounds 54 = .ok (.aload_n 0, 1) := by decide +kernel
theorem dX7_rounds_55 : decode cX7_rounds 55 = .ok (.getfield 191, 3) := by decide +kernel
theorem dX7_rounds_58 : decode cX7_rounds 58 = .ok (.bipush 33, 2) := by decide +kernel
theorem dX7_rounds_60 : decode cX7_rounds 60 = .ok (.lushr, 1) := by decide +kernel
theorem dX7_rounds_61 : decode cX7_rounds 61 = .ok (.ldc2_w 169, 3) := by decide +kernel
theorem dX7_rounds_64 : decode cX7_rounds 64 = .ok (.lrem, 1) := by decide +kernel
theorem dX7_rounds_65 : decode cX7_rounds 65 = .ok (.l2i, 1) := by decide +kernel
theorem dX7_rounds_66 : decode cX7_rounds 66 = .ok (.istore_n 3, 1) := by decide +kernel
theorem dX7_rounds_67 : decode cX7_rounds 67 = .ok (.iload_n 3, 1) := by decide +kernel
theorem dX7_rounds_68 : decode cX7_rounds 68 = .ok (.iconst 3, 1) := by decide +kernel
theorem dX7_rounds_69 : decode cX7_rounds 69 = .ok (.if_icmp .ge 32, 3) := by decide +kernel
theorem dX7_rounds_72 : decode cX7_rounds 72 = .ok (.aload_n 0, 1) := by decide +kernel
theorem dX7_rounds_73 : decode cX7_rounds 73 = .ok (.aload_n 0, 1) := by decide +kernel
theorem dX7_rounds_74 : decode cX7_rounds 74 = .ok (.getfield 25, 3) := by decide +kernel
theorem dX7_rounds_77 : decode cX7_rounds 77 = .ok (.aload_n 0, 1) := by decide +kernel
theorem dX7_rounds_78 : decode cX7_rounds 78 = .ok (.aload_n 0, 1) := by decide +kernel
theorem dX7_rounds_79 : decode cX7_rounds 79 = .ok (.getfield 25, 3) := by decide +kernel
theorem dX7_rounds_82 : decode cX7_rounds 82 = .ok (.iload_n 3, 1) := by decide +kernel
theorem dX7_rounds_83 : decode cX7_rounds 83 = .ok (.invokevirtual 121, 3) := by decide +kernel
theorem dX7_rounds_86 : decode cX7_rounds 86 = .ok (.ifCond .eq 7, 3) := by decide +kernel
theorem dX7_rounds_89 : decode cX7_rounds 89 = .ok (.iload_n 3, 1) := by decide +kernel
theorem dX7_rounds_90 : decode cX7_rounds 90 = .ok (.goto 4, 3) := by decide +kernel
theorem dX7_rounds_93 : decode cX7_rounds 93 = .ok (.iconst 3, 1) := by decide +kernel
theorem dX7_rounds_94 : decode cX7_rounds 94 = .ok (.invokevirtual 128, 3) := by decide +kernel
theorem dX7_rounds_97 : decode cX7_rounds 97 = .ok (.pop, 1) := by decide +kernel
theorem dX7_rounds_98 : decode cX7_rounds 98 = .ok (.goto 27, 3) := by decide +kernel
theorem dX7_rounds_101 : decode cX7_rounds 101 = .ok (.aload_n 0, 1) := by decide +kernel
theorem dX7_rounds_102 : decode cX7_rounds 102 = .ok (.iload_n 3, 1) := by decide +kernel
theorem dX7_rounds_103 : decode cX7_rounds 103 = .ok (.iconst 3, 1) := by decide +kernel
theorem dX7_rounds_104 : decode cX7_rounds 104 = .ok (.isub, 1) := by decide +kernel
theorem dX7_rounds_105 : decode cX7_rounds 105 = .ok (.invokevirtual 109, 3) := by decide +kernel
theorem dX7_rounds_108 : decode cX7_rounds 108 = .ok (.ifCond .ne 17, 3) := by decide +kernel
theorem dX7_rounds_111 : decode cX7_rounds 111 = .ok (.aload_n 0, 1) := by decide +kernel
theorem dX7_rounds_112 : decode cX7_rounds 112 = .ok (.getfield 25, 3) := by decide +kernel
theorem dX7_rounds_115 : decode cX7_rounds 115 = .ok (.iconst 4, 1) := by decide +kernel
theorem dX7_rounds_116 : decode cX7_rounds 116 = .ok (.dup2, 1) := by decide +kernel
theorem dX7_rounds_117 : decode cX7_rounds 117 = .ok (.iaload, 1) := by decide +kernel
theorem dX7_rounds_118 : decode cX7_rounds 118 = .ok (.iconst 1, 1) := by decide +kernel
theorem dX7_rounds_119 : decode cX7_rounds 119 = .ok (.iload_n 3, 1) := by decide +kernel
theorem dX7_rounds_120 : decode cX7_rounds 120 = .ok (.iconst 3, 1) := by decide +kernel
theorem dX7_rounds_121 : decode cX7_rounds 121 = .ok (.isub, 1) := by decide +kernel
theorem dX7_rounds_122 : decode cX7_rounds 122 = .ok (.ishl, 1) := by decide +kernel
theorem dX7_rounds_123 : decode cX7_rounds 123 = .ok (.ixor, 1) := by decide +kernel
theorem dX7_rounds_124 : decode cX7_rounds 124 = .ok (.iastore, 1) := by decide +kernel
theorem dX7_rounds_125 : decode cX7_rounds 125 = .ok (.iinc 2 1, 3) := by decide +kernel
theorem dX7_rounds_128 : decode cX7_rounds 128 = .ok (.goto (-95), 3) := by decide +kernel
theorem dX7_rounds_131 : decode cX7_rounds 131 = .ok (.aload_n 0, 1) := by decide +kernel
theorem dX7_rounds_132 : decode cX7_rounds 132 = .ok (.getfield 25, 3) := by decide +kernel
theorem dX7_rounds_135 : decode cX7_rounds 135 = .ok (.iconst 3, 1) := by decide +kernel
theorem dX7_rounds_136 : decode cX7_rounds 136 = .ok (.iaload, 1) := by decide +kernel
theorem dX7_rounds_137 : decode cX7_rounds 137 = .ok (.aload_n 0, 1) := by decide +kernel
theorem dX7_rounds_138 : decode cX7_rounds 138 = .ok (.getfield 22, 3) := by decide +kernel
theorem dX7_rounds_141 : decode cX7_rounds 141 = .ok (.iconst 3, 1) := by decide +kernel
theorem dX7_rounds_142 : decode cX7_rounds 142 = .ok (.iaload, 1) := by decide +kernel
theorem dX7_rounds_143 : decode cX7_rounds 143 = .ok (.isub, 1) := by decide +kernel
theorem dX7_rounds_144 : decode cX7_rounds 144 = .ok (.ireturn, 1) := by decide +kernel
theorem dX7_keep_0 : decode cX7_keep 0 = .ok (.aload_n 0, 1) := by decide +kernel
theorem dX7_keep_1 : decode cX7_keep 1 = .ok (.iconst 0, 1) := by decide +kernel
theorem dX7_keep_2 : decode cX7_keep 2 = .ok (.putfield 59, 3) := by decide +kernel
theorem dX7_keep_5 : decode cX7_keep 5 = .ok (.iload_n 1, 1) := by decide +kernel
theorem dX7_keep_6 : decode cX7_keep 6 = .ok (.i2l, 1) := by decide +kernel
theorem dX7_keep_7 : decode cX7_keep 7 = .ok (.lconst 0, 1) := by decide +kernel
theorem dX7_keep_8 : decode cX7_keep 8 = .ok (.lconst 1, 1) := by decide +kernel
theorem dX7_keep_9 : decode cX7_keep 9 = .ok (.invokestatic 66, 3) := by decide +kernel
theorem dX7_keep_12 : decode cX7_keep 12 = .ok (.ifCond .ne 5, 3) := by decide +kernel
theorem dX7_keep_15 : decode cX7_keep 15 = .ok (.iconst (-1), 1) := by decide +kernel
theorem dX7_keep_16 : decode cX7_keep 16 = .ok (.ireturn, 1) := by decide +kernel
theorem dX7_keep_17 : decode cX7_keep 17 = .ok (.aload_n 0, 1) := by decide +kernel
theorem dX7_keep_18 : decode cX7_keep 18 = .ok (.getfield 37, 3) := by decide +kernel
theorem dX7_keep_21 : decode cX7_keep 21 = .ok (.iload_n 1, 1) := by decide +kernel
theorem dX7_keep_22 : decode cX7_keep 22 = .ok (.iconst 1, 1) := by decide +kernel
theorem dX7_keep_23 : decode cX7_keep 23 = .ok (.bastore, 1) := by decide +kernel
theorem dX7_keep_24 : decode cX7_keep 24 = .ok (.iconst 0, 1) := by decide +kernel
theorem dX7_keep_25 : decode cX7_keep 25 = .ok (.istore_n 2, 1) := by decide +kernel
theorem dX7_keep_26 : decode cX7_keep 26 = .ok (.iload_n 2, 1) := by decide +kernel
theorem dX7_keep_27 : decode cX7_keep 27 = .ok (.bipush 12, 2) := by decide +kernel
theorem dX7_keep_29 : decode cX7_keep 29 = .ok (.if_icmp .ge 26, 3) := by decide +kernel
theorem dX7_keep_32 : decode cX7_keep 32 = .ok (.aload_n 0, 1) := by decide +kernel
theorem dX7_keep_33 : decode cX7_keep 33 = .ok (.getfield 34, 3) := by decide +kernel
theorem dX7_keep_36 : decode cX7_keep 36 = .ok (.bipush 12, 2) := by decide +kernel
theorem dX7_keep_38 : decode cX7_keep 38 = .ok (.iload_n 1, 1) := by decide +kernel
theorem dX7_keep_39 : decode cX7_keep 39 = .ok (.imul, 1) := by decide +kernel
theorem dX7_keep_40 : decode cX7_keep 40 = .ok (.iload_n 2, 1) := by decide +kernel
theorem dX7_keep_41 : decode cX7_keep 41 = .ok (.iadd, 1) := by decide +kernel
theorem dX7_keep_42 : decode cX7_keep 42 = .ok (.aload_n 0, 1) := by decide +kernel
theorem dX7_keep_43 : decode cX7_keep 43 = .ok (.getfield 22, 3) := by decide +kernel
theorem dX7_keep_46 : decode cX7_keep 46 = .ok (.iload_n 2, 1) := by decide +kernel
theorem dX7_keep_47 : decode cX7_keep 47 = .ok (.iaload, 1) := by decide +kernel
theorem dX7_keep_48 : decode cX7_keep 48 = .ok (.iastore, 1) := by decide +kernel
theorem dX7_keep_49 : decode cX7_keep 49 = .ok (.iinc 2 1, 3) := by decide +kernel
theorem dX7_keep_52 : decode cX7_keep 52 = .ok (.goto (-26), 3) := by decide +kernel
theorem dX7_keep_55 : decode cX7_keep 55 = .ok (.aload_n 0, 1) := by decide +kernel
theorem dX7_keep_56 : decode cX7_keep 56 = .ok (.getfield 22, 3) := by decide +kernel
theorem dX7_keep_59 : decode cX7_keep 59 = .ok (.iconst 2, 1) := by decide +kernel
theorem dX7_keep_60 : decode cX7_keep 60 = .ok (.iaload, 1) := by decide +kernel
theorem dX7_keep_61 : decode cX7_keep 61 = .ok (.ireturn, 1) := by decide +kernel
theorem dX7_again_0 : decode cX7_again 0 = .ok (.aload_n 0, 1) := by decide +kernel
theorem dX7_again_1 : decode cX7_again 1 = .ok (.iconst 0, 1) := by decide +kernel
theorem dX7_again_2 : decode cX7_again 2 = .ok (.putfield 59, 3) := by decide +kernel
theorem dX7_again_5 : decode cX7_again 5 = .ok (.iload_n 1, 1) := by decide +kernel
theorem dX7_again_6 : decode cX7_again 6 = .ok (.i2l, 1) := by decide +kernel
theorem dX7_again_7 : decode cX7_again 7 = .ok (.lconst 0, 1) := by decide +kernel
theorem dX7_again_8 : decode cX7_again 8 = .ok (.lconst 1, 1) := by decide +kernel
theorem dX7_again_9 : decode cX7_again 9 = .ok (.invokestatic 66, 3) := by decide +kernel
theorem dX7_again_12 : decode cX7_again 12 = .ok (.ifCond .ne 5, 3) := by decide +kernel
theorem dX7_again_15 : decode cX7_again 15 = .ok (.iconst (-1), 1) := by decide +kernel
theorem dX7_again_16 : decode cX7_again 16 = .ok (.ireturn, 1) := by decide +kernel
theorem dX7_again_17 : decode cX7_again 17 = .ok (.aload_n 0, 1) := by decide +kernel
theorem dX7_again_18 : decode cX7_again 18 = .ok (.getfield 37, 3) := by decide +kernel
theorem dX7_again_21 : decode cX7_again 21 = .ok (.iload_n 1, 1) := by decide +kernel
theorem dX7_again_22 : decode cX7_again 22 = .ok (.baload, 1) := by decide +kernel
theorem dX7_again_23 : decode cX7_again 23 = .ok (.ifCond .ne 6, 3) := by decide +kernel
theorem dX7_again_26 : decode cX7_again 26 = .ok (.bipush (-3), 2) := by decide +kernel
theorem dX7_again_28 : decode cX7_again 28 = .ok (.ireturn, 1) := by decide +kernel
theorem dX7_again_29 : decode cX7_again 29 = .ok (.iconst 0, 1) := by decide +kernel
theorem dX7_again_30 : decode cX7_again 30 = .ok (.istore_n 2, 1) := by decide +kernel
theorem dX7_again_31 : decode cX7_again 31 = .ok (.iload_n 2, 1) := by decide +kernel
theorem dX7_again_32 : decode cX7_again 32 = .ok (.bipush 12, 2) := by decide +kernel
theorem dX7_again_34 : decode cX7_again 34 = .ok (.if_icmp .ge 26, 3) := by decide +kernel
theorem dX7_again_37 : decode cX7_again 37 = .ok (.aload_n 0, 1) := by decide +kernel
theorem dX7_again_38 : decode cX7_again 38 = .ok (.getfield 22, 3) := by decide +kernel
theorem dX7_again_41 : decode cX7_again 41 = .ok (.iload_n 2, 1) := by decide +kernel
theorem dX7_again_42 : decode cX7_again 42 = .ok (.aload_n 0, 1) := by decide +kernel
theorem dX7_again_43 : decode cX7_again 43 = .ok (.getfield 34, 3) := by decide +kernel
theorem dX7_again_46 : decode cX7_again 46 = .ok (.bipush 12, 2) := by decide +kernel
theorem dX7_again_48 : decode cX7_again 48 = .ok (.iload_n 1, 1) := by decide +kernel
theorem dX7_again_49 : decode cX7_again 49 = .ok (.imul, 1) := by decide +kernel
theorem dX7_again_50 : decode cX7_again 50 = .ok (.iload_n 2, 1) := by decide +kernel
theorem dX7_again_51 : decode cX7_again 51 = .ok (.iadd, 1) := by decide +kernel
theorem dX7_again_52 : decode cX7_again 52 = .ok (.iaload, 1) := by decide +kernel
theorem dX7_again_53 : decode cX7_again 53 = .ok (.iastore, 1) := by decide +kernel
theorem dX7_again_54 : decode cX7_again 54 = .ok (.iinc 2 1, 3) := by decide +kernel
theorem dX7_again_57 : decode cX7_again 57 = .ok (.goto (-26), 3) := by decide +kernel
theorem dX7_again_60 : decode cX7_again 60 = .ok (.aload_n 0, 1) := by decide +kernel
theorem dX7_again_61 : decode cX7_again 61 = .ok (.iconst 0, 1) := by decide +kernel
theorem dX7_again_62 : decode cX7_again 62 = .ok (.putfield 95, 3) := by decide +kernel
theorem dX7_again_65 : decode cX7_again 65 = .ok (.aload_n 0, 1) := by decide +kernel
theorem dX7_again_66 : decode cX7_again 66 = .ok (.getfield 22, 3) := by decide +kernel
theorem dX7_again_69 : decode cX7_again 69 = .ok (.iconst 2, 1) := by decide +kernel
theorem dX7_again_70 : decode cX7_again 70 = .ok (.iaload, 1) := by decide +kernel
theorem dX7_again_71 : decode cX7_again 71 = .ok (.ireturn, 1) := by decide +kernel
end
section
/-! decode rows -/
theorem dL_law_0 : decode cL_law 0 = .ok (.new 7, 3) := by decide +kernel
theorem dL_law_3 : decode cL_law 3 = .ok (.dup, 1) := by decide +kernel
theorem dL_law_4 : decode cL_law 4 = .ok (.invokespecial 9, 3) := by decide +kernel
theorem dL_law_7 : decode cL_law 7 = .ok (.astore_n 1, 1) := by decide +kernel
theorem dL_law_8 : decode cL_law 8 = .ok (.new 10, 3) := by decide +kernel
theorem dL_law_11 : decode cL_law 11 = .ok (.dup, 1) := by decide +kernel
theorem dL_law_12 : decode cL_law 12 = .ok (.invokespecial 12, 3) := by decide +kernel
theorem dL_law_15 : decode cL_law 15 = .ok (.astore_n 2, 1) := by decide +kernel
theorem dL_law_16 : decode cL_law 16 = .ok (.iconst 0, 1) := by decide +kernel
theorem dL_law_17 : decode cL_law 17 = .ok (.istore_n 3, 1) := by decide +kernel
theorem dL_law_18 : decode cL_law 18 = .ok (.iload_n 3, 1) := by decide +kernel
theorem dL_law_19 : decode cL_law 19 = .ok (.aload_n 0, 1) := by decide +kernel
theorem dL_law_20 : decode cL_law 20 = .ok (.arraylength, 1) := by decide +kernel
theorem dL_law_21 : decode cL_law 21 = .ok (.bipush 6, 2) := by decide +kernel
theorem dL_law_23 : decode cL_law 23 = .ok (.isub, 1) := by decide +kernel
theorem dL_law_24 : decode cL_law 24 = .ok (.if_icmp .gt 898, 3) := by decide +kernel
theorem dL_law_27 : decode cL_law 27 = .ok (.aload_n 0, 1) := by decide +kernel
theorem dL_law_28 : decode cL_law 28 = .ok (.iload_n 3, 1) := by decide +kernel
theorem dL_law_29 : decode cL_law 29 = .ok (.iaload, 1) := by decide +kernel
theorem dL_law_30 : decode cL_law 30 = .ok (.bipush 31, 2) := by decide +kernel
theorem dL_law_32 : decode cL_law 32 = .ok (.iand, 1) := by decide +kernel
theorem dL_law_33 : decode cL_law 33 = .ok (.tableswitch 883 0 26 #[123, 146, 159, 172, 185, 208, 241, 274, 297, 310, 323, 346, 369, 382, 431, 454, 487, 520, 569, 622, 635, 658, 681, 760, 814, 837, 860], 123) := by decide +kernel
theorem dL_law_156 : decode cL_law 156 = .ok (.aload_n 1, 1) := by decide +kernel
theorem dL_law_157 : decode cL_law 157 = .ok (.aload_n 0, 1) := by decide +kernel
theorem dL_law_158 : decode cL_law 158 = .ok (.iload_n 3, 1) := by decide +kernel
theorem dL_law_159 : decode cL_law 159 = .ok (.iconst 1, 1) := by decide +kernel
theorem dL_law_160 : decode cL_law 160 = .ok (.iadd, 1) := by decide +kernel
theorem dL_law_161 : decode cL_law 161 = .ok (.iaload, 1) := by decide +kernel
theorem dL_law_162 : decode cL_law 162 = .ok (.invokevirtual 13, 3) := by decide +kernel
theorem dL_law_165 : decode cL_law 165 = .ok (.aload_n 2, 1) := by decide +kernel
theorem dL_law_166 : decode cL_law 166 = .ok (.aload_n 0, 1) := by decide +kernel
theorem dL_law_167 : decode cL_law 167 = .ok (.iload_n 3, 1) := by decide +kernel
theorem dL_law_168 : decode cL_law 168 = .ok (.iconst 1, 1) := by decide +kernel
theorem dL_law_169 : decode cL_law 169 = .ok (.iadd, 1) := by decide +kernel
theorem dL_law_170 : decode cL_law 170 = .ok (.iaload, 1) := by decide +kernel
theorem dL_law_171 : decode cL_law 171 = .ok (.invokevirtual 17, 3) := by decide +kernel
theorem dL_law_174 : decode cL_law 174 = .ok (.if_icmp .eq 742, 3) := by decide +kernel
theorem dL_law_177 : decode cL_law 177 = .ok (.iconst 0, 1) := by decide +kernel
theorem dL_law_178 : decode cL_law 178 = .ok (.ireturn, 1) := by decide +kernel
theorem dL_law_179 : decode cL_law 179 = .ok (.aload_n 1, 1) := by decide +kernel
theorem dL_law_180 : decode cL_law 180 = .ok (.invokevirtual 18, 3) := by decide +kernel
theorem dL_law_183 : decode cL_law 183 = .ok (.aload_n 2, 1) := by decide +kernel
theorem dL_law_184 : decode cL_law 184 = .ok (.invokevirtual 22, 3) := by decide +kernel
theorem dL_law_187 : decode cL_law 187 = .ok (.if_icmp .eq 729, 3) := by decide +kernel
theorem dL_law_190 : decode cL_law 190 = .ok (.iconst 0, 1) := by decide +kernel
theorem dL_law_191 : decode cL_law 191 = .ok (.ireturn, 1) := by decide +kernel
theorem dL_law_192 : decode cL_law 192 = .ok (.aload_n 1, 1) := by decide +kernel
theorem dL_law_193 : decode cL_law 193 = .ok (.invokevirtual 23, 3) := by decide +kernel
theorem dL_law_196 : decode cL_law 196 = .ok (.aload_n 2, 1) := by decide +kernel
theorem dL_law_197 : decode cL_law 197 = .ok (.invokevirtual 26, 3) := by decide +kernel
theorem dL_law_200 : decode cL_law 200 = .ok (.if_icmp .eq 716, 3) := by decide +kernel
theorem dL_law_203 : decode cL_law 203 = .ok (.iconst 0, 1) := by decide +kernel
theorem dL_law_204 : decode cL_law 204 = .ok (.ireturn, 1) := by decide +kernel
theorem dL_law_205 : decode cL_law 205 = .ok (.aload_n 1, 1) := by decide +kernel
theorem dL_law_206 : decode cL_law 206 = .ok (.invokevirtual 27, 3) := by decide +kernel
theorem dL_law_209 : decode cL_law 209 = .ok (.aload_n 2, 1) := by decide +kernel
theorem dL_law_210 : decode cL_law 210 = .ok (.invokevirtual 30, 3) := by decide +kernel
theorem dL_law_213 : decode cL_law 213 = .ok (.if_icmp .eq 703, 3) := by decide +kernel
theorem dL_law_216 : decode cL_law 216 = .ok (.iconst 0, 1) := by decide +kernel
theorem dL_law_217 : decode cL_law 217 = .ok (.ireturn, 1) := by decide +kernel
theorem dL_law_218 : decode cL_law 218 = .ok (.aload_n 1, 1) := by decide +kernel
theorem dL_law_219 : decode cL_law 219 = .ok (.aload_n 0, 1) := by decide +kernel
theorem dL_law_220 : decode cL_law 220 = .ok (.iload_n 3, 1) := by decide +kernel
theorem dL_law_221 : decode cL_law 221 = .ok (.iconst 1, 1) := by decide +kernel
theorem dL_law_222 : decode cL_law 222 = .ok (.iadd, 1) := by decide +kernel
theorem dL_law_223 : decode cL_law 223 = .ok (.iaload, 1) := by decide +kernel
theorem dL_law_224 : decode cL_law 224 = .ok (.invokevirtual 31, 3) := by decide +kernel
theorem dL_law_227 : decode cL_law 227 = .ok (.aload_n 2, 1) := by decide +kernel
theorem dL_law_228 : decode cL_law 228 = .ok (.aload_n 0, 1) := by decide +kernel
theorem dL_law_229 : decode cL_law 229 = .ok (.iload_n 3, 1) := by decide +kernel
theorem dL_law_230 : decode cL_law 230 = .ok (.iconst 1, 1) := by decide +kernel
theorem dL_law_231 : decode cL_law 231 = .ok (.iadd, 1) := by decide +kernel
theorem dL_law_232 : decode cL_law 232 = .ok (.iaload, 1) := by decide +kernel
theorem dL_law_233 : decode cL_law 233 = .ok (.invokevirtual 34, 3) := by decide +kernel
theorem dL_law_236 : decode cL_law 236 = .ok (.if_icmp .eq 680, 3) := by decide +kernel
theorem dL_law_239 : decode cL_law 239 = .ok (.iconst 0, 1) := by decide +kernel
theorem dL_law_240 : decode cL_law 240 = .ok (.ireturn, 1) := by decide +kernel
theorem dL_law_241 : decode cL_law 241 = .ok (.aload_n 1, 1) := by decide +kernel
theorem dL_law_242 : decode cL_law 242 = .ok (.aload_n 0, 1) := by decide +kernel
theorem dL_law_243 : decode cL_law 243 = .ok (.iload_n 3, 1) := by decide +kernel
theorem dL_law_244 : decode cL_law 244 = .ok (.iconst 1, 1) := by decide +kernel
theorem dL_law_245 : decode cL_law 245 = .ok (.iadd, 1) := by decide +kernel
theorem dL_law_246 : decode cL_law 246 = .ok (.iaload, 1) := by decide +kernel
theorem dL_law_247 : decode cL_law 247 = .ok (.aload_n 0, 1) := by decide +kernel
theorem dL_law_248 : decode cL_law 248 = .ok (.iload_n 3, 1) := by decide +kernel
theorem dL_law_249 : decode cL_law 249 = .ok (.iconst 2, 1) := by decide +kernel
theorem dL_law_250 : decode cL_law 250 = .ok (.iadd, 1) := by decide +kernel
theorem dL_law_251 : decode cL_law 251 = .ok (.iaload, 1) := by decide +kernel
theorem dL_law_252 : decode cL_law 252 = .ok (.invokevirtual 35, 3) := by decide +kernel
theorem dL_law_255 : decode cL_law 255 = .ok (.aload_n 2, 1) := by decide +kernel
theorem dL_law_256 : decode cL_law 256 = .ok (.aload_n 0, 1) := by decide +kernel
theorem dL_law_257 : decode cL_law 257 = .ok (.iload_n 3, 1) := by decide +kernel
theorem dL_law_258 : decode cL_law 258 = .ok (.iconst 1, 1) := by decide +kernel
theorem dL_law_259 : decode cL_law 259 = .ok (.iadd, 1) := by decide +kernel
theorem dL_law_260 : decode cL_law 260 = .ok (.iaload, 1) := by decide +kernel
theorem dL_law_261 : decode cL_law 261 = .ok (.aload_n 0, 1) := by decide +kernel
theorem dL_law_262 : decode cL_law 262 = .ok (.iload_n 3, 1) := by decide +kernel
theorem dL_law_263 : decode cL_law 263 = .ok (.iconst 2, 1) := by decide +kernel
theorem dL_law_264 : decode cL_law 264 = .ok (.iadd, 1) := by decide +kernel
theorem dL_law_265 : decode cL_law 265 = .ok (.iaload, 1) := by decide +kernel
theorem dL_law_266 : decode cL_law 266 = .ok (.invokevirtual 39, 3) := by decide +kernel
theorem dL_law_269 : decode cL_law 269 = .ok (.if_icmp .eq 647, 3) := by decide +kernel
theorem dL_law_272 : decode cL_law 272 = .ok (.iconst 0, 1) := by decide +kernel
theorem dL_law_273 : decode cL_law 273 = .ok (.ireturn, 1) := by decide +kernel
theorem dL_law_274 : decode cL_law 274 = .ok (.aload_n 1, 1) := by decide +kernel
theorem dL_law_275 : decode cL_law 275 = .ok (.aload_n 0, 1) := by decide +kernel
theorem dL_law_276 : decode cL_law 276 = .ok (.iload_n 3, 1) := by decide +kernel
theorem dL_law_277 : decode cL_law 277 = .ok (.iconst 1, 1) := by decide +kernel
theorem dL_law_278 : decode cL_law 278 = .ok (.iadd, 1) := by decide +kernel
theorem dL_law_279 : decode cL_law 279 = .ok (.iaload, 1) := by decide +kernel
theorem dL_law_280 : decode cL_law 280 = .ok (.aload_n 0, 1) := by decide +kernel
theorem dL_law_281 : decode cL_law 281 = .ok (.iload_n 3, 1) := by decide +kernel
theorem dL_law_282 : decode cL_law 282 = .ok (.iconst 2, 1) := by decide +kernel
theorem dL_law_283 : decode cL_law 283 = .ok (.iadd, 1) := by decide +kernel
theorem dL_law_284 : decode cL_law 284 = .ok (.iaload, 1) := by decide +kernel
theorem dL_law_285 : decode cL_law 285 = .ok (.invokevirtual 40, 3) := by decide +kernel
theorem dL_law_288 : decode cL_law 288 = .ok (.aload_n 2, 1) := by decide +kernel
theorem dL_law_289 : decode cL_law 289 = .ok (.aload_n 0, 1) := by decide +kernel
theorem dL_law_290 : decode cL_law 290 = .ok (.iload_n 3, 1) := by decide +kernel
theorem dL_law_291 : decode cL_law 291 = .ok (.iconst 1, 1) := by decide +kernel
theorem dL_law_292 : decode cL_law 292 = .ok (.iadd, 1) := by decide +kernel
theorem dL_law_293 : decode cL_law 293 = .ok (.iaload, 1) := by decide +kernel
theorem dL_law_294 : decode cL_law 294 = .ok (.aload_n 0, 1) := by decide +kernel
theorem dL_law_295 : decode cL_law 295 = .ok (.iload_n 3, 1) := by decide +kernel
theorem dL_law_296 : decode cL_law 296 = .ok (.iconst 2, 1) := by decide +kernel
theorem dL_law_297 : decode cL_law 297 = .ok (.iadd, 1) := by decide +kernel
theorem dL_law_298 : decode cL_law 298 = .ok (.iaload, 1) := by decide +kernel
theorem dL_law_299 : decode cL_law 299 = .ok (.invokevirtual 43, 3) := by decide +kernel
theorem dL_law_302 : decode cL_law 302 = .ok (.if_icmp .eq 614, 3) := by decide +kernel
theorem dL_law_305 : decode cL_law 305 = .ok (.iconst 0, 1) := by decide +kernel
theorem dL_law_306 : decode cL_law 306 = .ok (.ireturn, 1) := by decide +kernel
theorem dL_law_307 : decode cL_law 307 = .ok (.aload_n 1, 1) := by decide +kernel
theorem dL_law_308 : decode cL_law 308 = .ok (.aload_n 0, 1) := by decide +kernel
theorem dL_law_309 : decode cL_law 309 = .ok (.iload_n 3, 1) := by decide +kernel
theorem dL_law_310 : decode cL_law 310 = .ok (.iconst 1, 1) := by decide +kernel
theorem dL_law_311 : decode cL_law 311 = .ok (.iadd, 1) := by decide +kernel
theorem dL_law_312 : decode cL_law 312 = .ok (.iaload, 1) := by decide +kernel
theorem dL_law_313 : decode cL_law 313 = .ok (.invokevirtual 44, 3) := by decide +kernel
theorem dL_law_316 : decode cL_law 316 = .ok (.aload_n 2, 1) := by decide +kernel
theorem dL_law_317 : decode cL_law 317 = .ok (.aload_n 0, 1) := by decide +kernel
theorem dL_law_318 : decode cL_law 318 = .ok (.iload_n 3, 1) := by decide +kernel
theorem dL_law_319 : decode cL_law 319 = .ok (.iconst 1, 1) := by decide +kernel
theorem dL_law_320 : decode cL_law 320 = .ok (.iadd, 1) := by decide +kernel
theorem dL_law_321 : decode cL_law 321 = .ok (.iaload, 1) := by decide +kernel
theorem dL_law_322 : decode cL_law 322 = .ok (.invokevirtual 47, 3) := by decide +kernel
theorem dL_law_325 : decode cL_law 325 = .ok (.if_icmp .eq 591, 3) := by decide +kernel
theorem dL_law_328 : decode cL_law 328 = .ok (.iconst 0, 1) := by decide +kernel
theorem dL_law_329 : decode cL_law 329 = .ok (.ireturn, 1) := by decide +kernel
theorem dL_law_330 : decode cL_law 330 = .ok (.aload_n 1, 1) := by decide +kernel
theorem dL_law_331 : decode cL_law 331 = .ok (.invokevirtual 48, 3) := by decide +kernel
theorem dL_law_334 : decode cL_law 334 = .ok (.aload_n 2, 1) := by decide +kernel
theorem dL_law_335 : decode cL_law 335 = .ok (.invokevirtual 51, 3) := by decide +kernel
theorem dL_law_338 : decode cL_law 338 = .ok (.if_icmp .eq 578, 3) := by decide +kernel
theorem dL_law_341 : decode cL_law 341 = .ok (.iconst 0, 1) := by decide +kernel
theorem dL_law_342 : decode cL_law 342 = .ok (.ireturn, 1) := by decide +kernel
theorem dL_law_343 : decode cL_law 343 = .ok (.aload_n 1, 1) := by decide +kernel
theorem dL_law_344 : decode cL_law 344 = .ok (.invokevirtual 52, 3) := by decide +kernel
theorem dL_law_347 : decode cL_law 347 = .ok (.aload_n 2, 1) := by decide +kernel
theorem dL_law_348 : decode cL_law 348 = .ok (.invokevirtual 55, 3) := by decide +kernel
theorem dL_law_351 : decode cL_law 351 = .ok (.if_icmp .eq 565, 3) := by decide +kernel
theorem dL_law_354 : decode cL_law 354 = .ok (.iconst 0, 1) := by decide +kernel
theorem dL_law_355 : decode cL_law 355 = .ok (.ireturn, 1) := by decide +kernel
theorem dL_law_356 : decode cL_law 356 = .ok (.aload_n 1, 1) := by decide +kernel
theorem dL_law_357 : decode cL_law 357 = .ok (.aload_n 0, 1) := by decide +kernel
theorem dL_law_358 : decode cL_law 358 = .ok (.iload_n 3, 1) := by decide +kernel
theorem dL_law_359 : decode cL_law 359 = .ok (.iconst 1, 1) := by decide +kernel
theorem dL_law_360 : decode cL_law 360 = .ok (.iadd, 1) := by decide +kernel
theorem dL_law_361 : decode cL_law 361 = .ok (.iaload, 1) := by decide +kernel
theorem dL_law_362 : decode cL_law 362 = .ok (.invokevirtual 56, 3) := by decide +kernel
theorem dL_law_365 : decode cL_law 365 = .ok (.aload_n 2, 1) := by decide +kernel
theorem dL_law_366 : decode cL_law 366 = .ok (.aload_n 0, 1) := by decide +kernel
theorem dL_law_367 : decode cL_law 367 = .ok (.iload_n 3, 1) := by decide +kernel
theorem dL_law_368 : decode cL_law 368 = .ok (.iconst 1, 1) := by decide +kernel
theorem dL_law_369 : decode cL_law 369 = .ok (.iadd, 1) := by decide +kernel
theorem dL_law_370 : decode cL_law 370 = .ok (.iaload, 1) := by decide +kernel
theorem dL_law_371 : decode cL_law 371 = .ok (.invokevirtual 59, 3) := by decide +kernel
theorem dL_law_374 : decode cL_law 374 = .ok (.if_icmp .eq 542, 3) := by decide +kernel
theorem dL_law_377 : decode cL_law 377 = .ok (.iconst 0, 1) := by decide +kernel
theorem dL_law_378 : decode cL_law 378 = .ok (.ireturn, 1) := by decide +kernel
theorem dL_law_379 : decode cL_law 379 = .ok (.aload_n 1, 1) := by decide +kernel
theorem dL_law_380 : decode cL_law 380 = .ok (.aload_n 0, 1) := by decide +kernel
theorem dL_law_381 : decode cL_law 381 = .ok (.iload_n 3, 1) := by decide +kernel
theorem dL_law_382 : decode cL_law 382 = .ok (.iconst 1, 1) := by decide +kernel
theorem dL_law_383 : decode cL_law 383 = .ok (.iadd, 1) := by decide +kernel
theorem dL_law_384 : decode cL_law 384 = .ok (.iaload, 1) := by decide +kernel
theorem dL_law_385 : decode cL_law 385 = .ok (.invokevirtual 60, 3) := by decide +kernel
theorem dL_law_388 : decode cL_law 388 = .ok (.aload_n 2, 1) := by decide +kernel
theorem dL_law_389 : decode cL_law 389 = .ok (.aload_n 0, 1) := by decide +kernel
theorem dL_law_390 : decode cL_law 390 = .ok (.iload_n 3, 1) := by decide +kernel
theorem dL_law_391 : decode cL_law 391 = .ok (.iconst 1, 1) := by decide +kernel
theorem dL_law_392 : decode cL_law 392 = .ok (.iadd, 1) := by decide +kernel
theorem dL_law_393 : decode cL_law 393 = .ok (.iaload, 1) := by decide +kernel
theorem dL_law_394 : decode cL_law 394 = .ok (.invokevirtual 63, 3) := by decide +kernel
theorem dL_law_397 : decode cL_law 397 = .ok (.if_icmp .eq 519, 3) := by decide +kernel
theorem dL_law_400 : decode cL_law 400 = .ok (.iconst 0, 1) := by decide +kernel
theorem dL_law_401 : decode cL_law 401 = .ok (.ireturn, 1) := by decide +kernel
theorem dL_law_402 : decode cL_law 402 = .ok (.aload_n 1, 1) := by decide +kernel
theorem dL_law_403 : decode cL_law 403 = .ok (.invokevirtual 64, 3) := by decide +kernel
theorem dL_law_406 : decode cL_law 406 = .ok (.aload_n 2, 1) := by decide +kernel
theorem dL_law_407 : decode cL_law 407 = .ok (.invokevirtual 67, 3) := by decide +kernel
theorem dL_law_410 : decode cL_law 410 = .ok (.if_icmp .eq 506, 3) := by decide +kernel
theorem dL_law_413 : decode cL_law 413 = .ok (.iconst 0, 1) := by decide +kernel
theorem dL_law_414 : decode cL_law 414 = .ok (.ireturn, 1) := by decide +kernel
theorem dL_law_415 : decode cL_law 415 = .ok (.aload_n 1, 1) := by decide +kernel
theorem dL_law_416 : decode cL_law 416 = .ok (.aload_n 0, 1) := by decide +kernel
theorem dL_law_417 : decode cL_law 417 = .ok (.iload_n 3, 1) := by decide +kernel
theorem dL_law_418 : decode cL_law 418 = .ok (.iconst 1, 1) := by decide +kernel
theorem dL_law_419 : decode cL_law 419 = .ok (.iadd, 1) := by decide +kernel
theorem dL_law_420 : decode cL_law 420 = .ok (.iaload, 1) := by decide +kernel
theorem dL_law_421 : decode cL_law 421 = .ok (.aload_n 0, 1) := by decide +kernel
theorem dL_law_422 : decode cL_law 422 = .ok (.iload_n 3, 1) := by decide +kernel
theorem dL_law_423 : decode cL_law 423 = .ok (.iconst 2, 1) := by decide +kernel
theorem dL_law_424 : decode cL_law 424 = .ok (.iadd, 1) := by decide +kernel
theorem dL_law_425 : decode cL_law 425 = .ok (.iaload, 1) := by decide +kernel
theorem dL_law_426 : decode cL_law 426 = .ok (.ifCond .eq 7, 3) := by decide +kernel
theorem dL_law_429 : decode cL_law 429 = .ok (.iconst 1, 1) := by decide +kernel
theorem dL_law_430 : decode cL_law 430 = .ok (.goto 4, 3) := by decide +kernel
theorem dL_law_433 : decode cL_law 433 = .ok (.iconst 0, 1) := by decide +kernel
theorem dL_law_434 : decode cL_law 434 = .ok (.invokevirtual 68, 3) := by decide +kernel
theorem dL_law_437 : decode cL_law 437 = .ok (.aload_n 2, 1) := by decide +kernel
theorem dL_law_438 : decode cL_law 438 = .ok (.aload_n 0, 1) := by decide +kernel
theorem dL_law_439 : decode cL_law 439 = .ok (.iload_n 3, 1) := by decide +kernel
theorem dL_law_440 : decode cL_law 440 = .ok (.iconst 1, 1) := by decide +kernel
theorem dL_law_441 : decode cL_law 441 = .ok (.iadd, 1) := by decide +kernel
theorem dL_law_442 : decode cL_law 442 = .ok (.iaload, 1) := by decide +kernel
theorem dL_law_443 : decode cL_law 443 = .ok (.aload_n 0, 1) := by decide +kernel
theorem dL_law_444 : decode cL_law 444 = .ok (.iload_n 3, 1) := by decide +kernel
theorem dL_law_445 : decode cL_law 445 = .ok (.iconst 2, 1) := by decide +kernel
theorem dL_law_446 : decode cL_law 446 = .ok (.iadd, 1) := by decide +kernel
theorem dL_law_447 : decode cL_law 447 = .ok (.iaload, 1) := by decide +kernel
theorem dL_law_448 : decode cL_law 448 = .ok (.ifCond .eq 7, 3) := by decide +kernel
theorem dL_law_451 : decode cL_law 451 = .ok (.iconst 1, 1) := by decide +kernel
theorem dL_law_452 : decode cL_law 452 = .ok (.goto 4, 3) := by decide +kernel
theorem dL_law_455 : decode cL_law 455 = .ok (.iconst 0, 1) := by decide +kernel
theorem dL_law_456 : decode cL_law 456 = .ok (.invokevirtual 72, 3) := by decide +kernel
theorem dL_law_459 : decode cL_law 459 = .ok (.if_icmp .eq 457, 3) := by decide +kernel
theorem dL_law_462 : decode cL_law 462 = .ok (.iconst 0, 1) := by decide +kernel
theorem dL_law_463 : decode cL_law 463 = .ok (.ireturn, 1) := by decide +kernel
theorem dL_law_464 : decode cL_law 464 = .ok (.aload_n 1, 1) := by decide +kernel
theorem dL_law_465 : decode cL_law 465 = .ok (.aload_n 0, 1) := by decide +kernel
theorem dL_law_466 : decode cL_law 466 = .ok (.iload_n 3, 1) := by decide +kernel
theorem dL_law_467 : decode cL_law 467 = .ok (.iconst 1, 1) := by decide +kernel
theorem dL_law_468 : decode cL_law 468 = .ok (.iadd, 1) := by decide +kernel
theorem dL_law_469 : decode cL_law 469 = .ok (.iaload, 1) := by decide +kernel
theorem dL_law_470 : decode cL_law 470 = .ok (.invokevirtual 73, 3) := by decide +kernel
theorem dL_law_473 : decode cL_law 473 = .ok (.aload_n 2, 1) := by decide +kernel
theorem dL_law_474 : decode cL_law 474 = .ok (.aload_n 0, 1) := by decide +kernel
theorem dL_law_475 : decode cL_law 475 = .ok (.iload_n 3, 1) := by decide +kernel
theorem dL_law_476 : decode cL_law 476 = .ok (.iconst 1, 1) := by decide +kernel
theorem dL_law_477 : decode cL_law 477 = .ok (.iadd, 1) := by decide +kernel
theorem dL_law_478 : decode cL_law 478 = .ok (.iaload, 1) := by decide +kernel
theorem dL_law_479 : decode cL_law 479 = .ok (.invokevirtual 76, 3) := by decide +kernel
theorem dL_law_482 : decode cL_law 482 = .ok (.if_icmp .eq 434, 3) := by decide +kernel
theorem dL_law_485 : decode cL_law 485 = .ok (.iconst 0, 1) := by decide +kernel
theorem dL_law_486 : decode cL_law 486 = .ok (.ireturn, 1) := by decide +kernel
theorem dL_law_487 : decode cL_law 487 = .ok (.aload_n 1, 1) := by decide +kernel
theorem dL_law_488 : decode cL_law 488 = .ok (.aload_n 0, 1) := by decide +kernel
theorem dL_law_489 : decode cL_law 489 = .ok (.iload_n 3, 1) := by decide +kernel
theorem dL_law_490 : decode cL_law 490 = .ok (.iconst 1, 1) := by decide +kernel
theorem dL_law_491 : decode cL_law 491 = .ok (.iadd, 1) := by decide +kernel
theorem dL_law_492 : decode cL_law 492 = .ok (.iaload, 1) := by decide +kernel
theorem dL_law_493 : decode cL_law 493 = .ok (.aload_n 0, 1) := by decide +kernel
theorem dL_law_494 : decode cL_law 494 = .ok (.iload_n 3, 1) := by decide +kernel
theorem dL_law_495 : decode cL_law 495 = .ok (.iconst 2, 1) := by decide +kernel
theorem dL_law_496 : decode cL_law 496 = .ok (.iadd, 1) := by decide +kernel
theorem dL_law_497 : decode cL_law 497 = .ok (.iaload, 1) := by decide +kernel
theorem dL_law_498 : decode cL_law 498 = .ok (.invokevirtual 77, 3) := by decide +kernel
theorem dL_law_501 : decode cL_law 501 = .ok (.aload_n 2, 1) := by decide +kernel
theorem dL_law_502 : decode cL_law 502 = .ok (.aload_n 0, 1) := by decide +kernel
theorem dL_law_503 : decode cL_law 503 = .ok (.iload_n 3, 1) := by decide +kernel
theorem dL_law_504 : decode cL_law 504 = .ok (.iconst 1, 1) := by decide +kernel
theorem dL_law_505 : decode cL_law 505 = .ok (.iadd, 1) := by decide +kernel
theorem dL_law_506 : decode cL_law 506 = .ok (.iaload, 1) := by decide +kernel
theorem dL_law_507 : decode cL_law 507 = .ok (.aload_n 0, 1) := by decide +kernel
theorem dL_law_508 : decode cL_law 508 = .ok (.iload_n 3, 1) := by decide +kernel
theorem dL_law_509 : decode cL_law 509 = .ok (.iconst 2, 1) := by decide +kernel
theorem dL_law_510 : decode cL_law 510 = .ok (.iadd, 1) := by decide +kernel
theorem dL_law_511 : decode cL_law 511 = .ok (.iaload, 1) := by decide +kernel
theorem dL_law_512 : decode cL_law 512 = .ok (.invokevirtual 80, 3) := by decide +kernel
theorem dL_law_515 : decode cL_law 515 = .ok (.if_icmp .eq 401, 3) := by decide +kernel
theorem dL_law_518 : decode cL_law 518 = .ok (.iconst 0, 1) := by decide +kernel
theorem dL_law_519 : decode cL_law 519 = .ok (.ireturn, 1) := by decide +kernel
theorem dL_law_520 : decode cL_law 520 = .ok (.aload_n 1, 1) := by decide +kernel
theorem dL_law_521 : decode cL_law 521 = .ok (.aload_n 0, 1) := by decide +kernel
theorem dL_law_522 : decode cL_law 522 = .ok (.iload_n 3, 1) := by decide +kernel
theorem dL_law_523 : decode cL_law 523 = .ok (.iconst 1, 1) := by decide +kernel
theorem dL_law_524 : decode cL_law 524 = .ok (.iadd, 1) := by decide +kernel
theorem dL_law_525 : decode cL_law 525 = .ok (.iaload, 1) := by decide +kernel
theorem dL_law_526 : decode cL_law 526 = .ok (.aload_n 0, 1) := by decide +kernel
theorem dL_law_527 : decode cL_law 527 = .ok (.iload_n 3, 1) := by decide +kernel
theorem dL_law_528 : decode cL_law 528 = .ok (.iconst 2, 1) := by decide +kernel
theorem dL_law_529 : decode cL_law 529 = .ok (.iadd, 1) := by decide +kernel
theorem dL_law_530 : decode cL_law 530 = .ok (.iaload, 1) := by decide +kernel
theorem dL_law_531 : decode cL_law 531 = .ok (.invokevirtual 81, 3) := by decide +kernel
theorem dL_law_534 : decode cL_law 534 = .ok (.aload_n 2, 1) := by decide +kernel
theorem dL_law_535 : decode cL_law 535 = .ok (.aload_n 0, 1) := by decide +kernel
theorem dL_law_536 : decode cL_law 536 = .ok (.iload_n 3, 1) := by decide +kernel
theorem dL_law_537 : decode cL_law 537 = .ok (.iconst 1, 1) := by decide +kernel
theorem dL_law_538 : decode cL_law 538 = .ok (.iadd, 1) := by decide +kernel
theorem dL_law_539 : decode cL_law 539 = .ok (.iaload, 1) := by decide +kernel
theorem dL_law_540 : decode cL_law 540 = .ok (.aload_n 0, 1) := by decide +kernel
theorem dL_law_541 : decode cL_law 541 = .ok (.iload_n 3, 1) := by decide +kernel
theorem dL_law_542 : decode cL_law 542 = .ok (.iconst 2, 1) := by decide +kernel
theorem dL_law_543 : decode cL_law 543 = .ok (.iadd, 1) := by decide +kernel
theorem dL_law_544 : decode cL_law 544 = .ok (.iaload, 1) := by decide +kernel
theorem dL_law_545 : decode cL_law 545 = .ok (.invokevirtual 84, 3) := by decide +kernel
theorem dL_law_548 : decode cL_law 548 = .ok (.if_icmp .eq 368, 3) := by decide +kernel
theorem dL_law_551 : decode cL_law 551 = .ok (.iconst 0, 1) := by decide +kernel
theorem dL_law_552 : decode cL_law 552 = .ok (.ireturn, 1) := by decide +kernel
theorem dL_law_553 : decode cL_law 553 = .ok (.aload_n 1, 1) := by decide +kernel
theorem dL_law_554 : decode cL_law 554 = .ok (.aload_n 0, 1) := by decide +kernel
theorem dL_law_555 : decode cL_law 555 = .ok (.iload_n 3, 1) := by decide +kernel
theorem dL_law_556 : decode cL_law 556 = .ok (.iconst 1, 1) := by decide +kernel
theorem dL_law_557 : decode cL_law 557 = .ok (.iadd, 1) := by decide +kernel
theorem dL_law_558 : decode cL_law 558 = .ok (.iaload, 1) := by decide +kernel
theorem dL_law_559 : decode cL_law 559 = .ok (.aload_n 0, 1) := by decide +kernel
theorem dL_law_560 : decode cL_law 560 = .ok (.iload_n 3, 1) := by decide +kernel
theorem dL_law_561 : decode cL_law 561 = .ok (.iconst 2, 1) := by decide +kernel
theorem dL_law_562 : decode cL_law 562 = .ok (.iadd, 1) := by decide +kernel
theorem dL_law_563 : decode cL_law 563 = .ok (.iaload, 1) := by decide +kernel
theorem dL_law_564 : decode cL_law 564 = .ok (.ifCond .eq 7, 3) := by decide +kernel
theorem dL_law_567 : decode cL_law 567 = .ok (.iconst 1, 1) := by decide +kernel
theorem dL_law_568 : decode cL_law 568 = .ok (.goto 4, 3) := by decide +kernel
theorem dL_law_571 : decode cL_law 571 = .ok (.iconst 0, 1) := by decide +kernel
theorem dL_law_572 : decode cL_law 572 = .ok (.invokevirtual 85, 3) := by decide +kernel
theorem dL_law_575 : decode cL_law 575 = .ok (.aload_n 2, 1) := by decide +kernel
theorem dL_law_576 : decode cL_law 576 = .ok (.aload_n 0, 1) := by decide +kernel
theorem dL_law_577 : decode cL_law 577 = .ok (.iload_n 3, 1) := by decide +kernel
theorem dL_law_578 : decode cL_law 578 = .ok (.iconst 1, 1) := by decide +kernel
theorem dL_law_579 : decode cL_law 579 = .ok (.iadd, 1) := by decide +kernel
theorem dL_law_580 : decode cL_law 580 = .ok (.iaload, 1) := by decide +kernel
theorem dL_law_581 : decode cL_law 581 = .ok (.aload_n 0, 1) := by decide +kernel
theorem dL_law_582 : decode cL_law 582 = .ok (.iload_n 3, 1) := by decide +kernel
theorem dL_law_583 : decode cL_law 583 = .ok (.iconst 2, 1) := by decide +kernel
theorem dL_law_584 : decode cL_law 584 = .ok (.iadd, 1) := by decide +kernel
theorem dL_law_585 : decode cL_law 585 = .ok (.iaload, 1) := by decide +kernel
theorem dL_law_586 : decode cL_law 586 = .ok (.ifCond .eq 7, 3) := by decide +kernel
theorem dL_law_589 : decode cL_law 589 = .ok (.iconst 1, 1) := by decide +kernel
theorem dL_law_590 : decode cL_law 590 = .ok (.goto 4, 3) := by decide +kernel
theorem dL_law_593 : decode cL_law 593 = .ok (.iconst 0, 1) := by decide +kernel
theorem dL_law_594 : decode cL_law 594 = .ok (.invokevirtual 88, 3) := by decide +kernel
theorem dL_law_597 : decode cL_law 597 = .ok (.if_icmp .eq 319, 3) := by decide +kernel
theorem dL_law_600 : decode cL_law 600 = .ok (.iconst 0, 1) := by decide +kernel
theorem dL_law_601 : decode cL_law 601 = .ok (.ireturn, 1) := by decide +kernel
theorem dL_law_602 : decode cL_law 602 = .ok (.aload_n 1, 1) := by decide +kernel
theorem dL_law_603 : decode cL_law 603 = .ok (.aload_n 0, 1) := by decide +kernel
theorem dL_law_604 : decode cL_law 604 = .ok (.iload_n 3, 1) := by decide +kernel
theorem dL_law_605 : decode cL_law 605 = .ok (.iconst 1, 1) := by decide +kernel
theorem dL_law_606 : decode cL_law 606 = .ok (.iadd, 1) := by decide +kernel
theorem dL_law_607 : decode cL_law 607 = .ok (.iaload, 1) := by decide +kernel
theorem dL_law_608 : decode cL_law 608 = .ok (.aload_n 0, 1) := by decide +kernel
theorem dL_law_609 : decode cL_law 609 = .ok (.iload_n 3, 1) := by decide +kernel
theorem dL_law_610 : decode cL_law 610 = .ok (.iconst 2, 1) := by decide +kernel
theorem dL_law_611 : decode cL_law 611 = .ok (.iadd, 1) := by decide +kernel
theorem dL_law_612 : decode cL_law 612 = .ok (.iaload, 1) := by decide +kernel
theorem dL_law_613 : decode cL_law 613 = .ok (.aload_n 0, 1) := by decide +kernel
theorem dL_law_614 : decode cL_law 614 = .ok (.iload_n 3, 1) := by decide +kernel
theorem dL_law_615 : decode cL_law 615 = .ok (.iconst 3, 1) := by decide +kernel
theorem dL_law_616 : decode cL_law 616 = .ok (.iadd, 1) := by decide +kernel
theorem dL_law_617 : decode cL_law 617 = .ok (.iaload, 1) := by decide +kernel
theorem dL_law_618 : decode cL_law 618 = .ok (.aload_n 0, 1) := by decide +kernel
theorem dL_law_619 : decode cL_law 619 = .ok (.iload_n 3, 1) := by decide +kernel
theorem dL_law_620 : decode cL_law 620 = .ok (.iconst 4, 1) := by decide +kernel
theorem dL_law_621 : decode cL_law 621 = .ok (.iadd, 1) := by decide +kernel
theorem dL_law_622 : decode cL_law 622 = .ok (.iaload, 1) := by decide +kernel
theorem dL_law_623 : decode cL_law 623 = .ok (.invokevirtual 89, 3) := by decide +kernel
theorem dL_law_626 : decode cL_law 626 = .ok (.aload_n 2, 1) := by decide +kernel
theorem dL_law_627 : decode cL_law 627 = .ok (.aload_n 0, 1) := by decide +kernel
theorem dL_law_628 : decode cL_law 628 = .ok (.iload_n 3, 1) := by decide +kernel
theorem dL_law_629 : decode cL_law 629 = .ok (.iconst 1, 1) := by decide +kernel
theorem dL_law_630 : decode cL_law 630 = .ok (.iadd, 1) := by decide +kernel
theorem dL_law_631 : decode cL_law 631 = .ok (.iaload, 1) := by decide +kernel
theorem dL_law_632 : decode cL_law 632 = .ok (.aload_n 0, 1) := by decide +kernel
theorem dL_law_633 : decode cL_law 633 = .ok (.iload_n 3, 1) := by decide +kernel
theorem dL_law_634 : decode cL_law 634 = .ok (.iconst 2, 1) := by decide +kernel
theorem dL_law_635 : decode cL_law 635 = .ok (.iadd, 1) := by decide +kernel
theorem dL_law_636 : decode cL_law 636 = .ok (.iaload, 1) := by decide +kernel
theorem dL_law_637 : decode cL_law 637 = .ok (.aload_n 0, 1) := by decide +kernel
theorem dL_law_638 : decode cL_law 638 = .ok (.iload_n 3, 1) := by decide +kernel
theorem dL_law_639 : decode cL_law 639 = .ok (.iconst 3, 1) := by decide +kernel
theorem dL_law_640 : decode cL_law 640 = .ok (.iadd, 1) := by decide +kernel
theorem dL_law_641 : decode cL_law 641 = .ok (.iaload, 1) := by decide +kernel
theorem dL_law_642 : decode cL_law 642 = .ok (.aload_n 0, 1) := by decide +kernel
theorem dL_law_643 : decode cL_law 643 = .ok (.iload_n 3, 1) := by decide +kernel
theorem dL_law_644 : decode cL_law 644 = .ok (.iconst 4, 1) := by decide +kernel
theorem dL_law_645 : decode cL_law 645 = .ok (.iadd, 1) := by decide +kernel
theorem dL_law_646 : decode cL_law 646 = .ok (.iaload, 1) := by decide +kernel
theorem dL_law_647 : decode cL_law 647 = .ok (.invokevirtual 93, 3) := by decide +kernel
theorem dL_law_650 : decode cL_law 650 = .ok (.if_icmp .eq 266, 3) := by decide +kernel
theorem dL_law_653 : decode cL_law 653 = .ok (.iconst 0, 1) := by decide +kernel
theorem dL_law_654 : decode cL_law 654 = .ok (.ireturn, 1) := by decide +kernel
theorem dL_law_655 : decode cL_law 655 = .ok (.aload_n 1, 1) := by decide +kernel
theorem dL_law_656 : decode cL_law 656 = .ok (.invokevirtual 94, 3) := by decide +kernel
theorem dL_law_659 : decode cL_law 659 = .ok (.aload_n 2, 1) := by decide +kernel
theorem dL_law_660 : decode cL_law 660 = .ok (.invokevirtual 97, 3) := by decide +kernel
theorem dL_law_663 : decode cL_law 663 = .ok (.if_icmp .eq 253, 3) := by decide +kernel
theorem dL_law_666 : decode cL_law 666 = .ok (.iconst 0, 1) := by decide +kernel
theorem dL_law_667 : decode cL_law 667 = .ok (.ireturn, 1) := by decide +kernel
theorem dL_law_668 : decode cL_law 668 = .ok (.aload_n 1, 1) := by decide +kernel
theorem dL_law_669 : decode cL_law 669 = .ok (.aload_n 0, 1) := by decide +kernel
theorem dL_law_670 : decode cL_law 670 = .ok (.iload_n 3, 1) := by decide +kernel
theorem dL_law_671 : decode cL_law 671 = .ok (.iconst 1, 1) := by decide +kernel
theorem dL_law_672 : decode cL_law 672 = .ok (.iadd, 1) := by decide +kernel
theorem dL_law_673 : decode cL_law 673 = .ok (.iaload, 1) := by decide +kernel
theorem dL_law_674 : decode cL_law 674 = .ok (.invokevirtual 98, 3) := by decide +kernel
theorem dL_law_677 : decode cL_law 677 = .ok (.aload_n 2, 1) := by decide +kernel
theorem dL_law_678 : decode cL_law 678 = .ok (.aload_n 0, 1) := by decide +kernel
theorem dL_law_679 : decode cL_law 679 = .ok (.iload_n 3, 1) := by decide +kernel
theorem dL_law_680 : decode cL_law 680 = .ok (.iconst 1, 1) := by decide +kernel
theorem dL_law_681 : decode cL_law 681 = .ok (.iadd, 1) := by decide +kernel
theorem dL_law_682 : decode cL_law 682 = .ok (.iaload, 1) := by decide +kernel
theorem dL_law_683 : decode cL_law 683 = .ok (.invokevirtual 101, 3) := by decide +kernel
theorem dL_law_686 : decode cL_law 686 = .ok (.if_icmp .eq 230, 3) := by decide +kernel
theorem dL_law_689 : decode cL_law 689 = .ok (.iconst 0, 1) := by decide +kernel
theorem dL_law_690 : decode cL_law 690 = .ok (.ireturn, 1) := by decide +kernel
theorem dL_law_691 : decode cL_law 691 = .ok (.aload_n 1, 1) := by decide +kernel
theorem dL_law_692 : decode cL_law 692 = .ok (.aload_n 0, 1) := by decide +kernel
theorem dL_law_693 : decode cL_law 693 = .ok (.iload_n 3, 1) := by decide +kernel
theorem dL_law_694 : decode cL_law 694 = .ok (.iconst 1, 1) := by decide +kernel
theorem dL_law_695 : decode cL_law 695 = .ok (.iadd, 1) := by decide +kernel
theorem dL_law_696 : decode cL_law 696 = .ok (.iaload, 1) := by decide +kernel
theorem dL_law_697 : decode cL_law 697 = .ok (.invokevirtual 102, 3) := by decide +kernel
theorem dL_law_700 : decode cL_law 700 = .ok (.aload_n 2, 1) := by decide +kernel
theorem dL_law_701 : decode cL_law 701 = .ok (.aload_n 0, 1) := by decide +kernel
theorem dL_law_702 : decode cL_law 702 = .ok (.iload_n 3, 1) := by decide +kernel
theorem dL_law_703 : decode cL_law 703 = .ok (.iconst 1, 1) := by decide +kernel
theorem dL_law_704 : decode cL_law 704 = .ok (.iadd, 1) := by decide +kernel
theorem dL_law_705 : decode cL_law 705 = .ok (.iaload, 1) := by decide +kernel
theorem dL_law_706 : decode cL_law 706 = .ok (.invokevirtual 105, 3) := by decide +kernel
theorem dL_law_709 : decode cL_law 709 = .ok (.if_icmp .eq 207, 3) := by decide +kernel
theorem dL_law_712 : decode cL_law 712 = .ok (.iconst 0, 1) := by decide +kernel
theorem dL_law_713 : decode cL_law 713 = .ok (.ireturn, 1) := by decide +kernel
theorem dL_law_714 : decode cL_law 714 = .ok (.aload_n 1, 1) := by decide +kernel
theorem dL_law_715 : decode cL_law 715 = .ok (.aload_n 0, 1) := by decide +kernel
theorem dL_law_716 : decode cL_law 716 = .ok (.iload_n 3, 1) := by decide +kernel
theorem dL_law_717 : decode cL_law 717 = .ok (.iconst 1, 1) := by decide +kernel
theorem dL_law_718 : decode cL_law 718 = .ok (.iadd, 1) := by decide +kernel
theorem dL_law_719 : decode cL_law 719 = .ok (.iaload, 1) := by decide +kernel
theorem dL_law_720 : decode cL_law 720 = .ok (.aload_n 0, 1) := by decide +kernel
theorem dL_law_721 : decode cL_law 721 = .ok (.iload_n 3, 1) := by decide +kernel
theorem dL_law_722 : decode cL_law 722 = .ok (.iconst 2, 1) := by decide +kernel
theorem dL_law_723 : decode cL_law 723 = .ok (.iadd, 1) := by decide +kernel
theorem dL_law_724 : decode cL_law 724 = .ok (.iaload, 1) := by decide +kernel
theorem dL_law_725 : decode cL_law 725 = .ok (.aload_n 0, 1) := by decide +kernel
theorem dL_law_726 : decode cL_law 726 = .ok (.iload_n 3, 1) := by decide +kernel
theorem dL_law_727 : decode cL_law 727 = .ok (.iconst 3, 1) := by decide +kernel
theorem dL_law_728 : decode cL_law 728 = .ok (.iadd, 1) := by decide +kernel
theorem dL_law_729 : decode cL_law 729 = .ok (.iaload, 1) := by decide +kernel
theorem dL_law_730 : decode cL_law 730 = .ok (.aload_n 0, 1) := by decide +kernel
theorem dL_law_731 : decode cL_law 731 = .ok (.iload_n 3, 1) := by decide +kernel
theorem dL_law_732 : decode cL_law 732 = .ok (.iconst 4, 1) := by decide +kernel
theorem dL_law_733 : decode cL_law 733 = .ok (.iadd, 1) := by decide +kernel
theorem dL_law_734 : decode cL_law 734 = .ok (.iaload, 1) := by decide +kernel
theorem dL_law_735 : decode cL_law 735 = .ok (.aload_n 0, 1) := by decide +kernel
theorem dL_law_736 : decode cL_law 736 = .ok (.iload_n 3, 1) := by decide +kernel
theorem dL_law_737 : decode cL_law 737 = .ok (.iconst 5, 1) := by decide +kernel
theorem dL_law_738 : decode cL_law 738 = .ok (.iadd, 1) := by decide +kernel
theorem dL_law_739 : decode cL_law 739 = .ok (.iaload, 1) := by decide +kernel
theorem dL_law_740 : decode cL_law 740 = .ok (.ifCond .eq 7, 3) := by decide +kernel
theorem dL_law_743 : decode cL_law 743 = .ok (.iconst 1, 1) := by decide +kernel
theorem dL_law_744 : decode cL_law 744 = .ok (.goto 4, 3) := by decide +kernel
theorem dL_law_747 : decode cL_law 747 = .ok (.iconst 0, 1) := by decide +kernel
theorem dL_law_748 : decode cL_law 748 = .ok (.invokevirtual 106, 3) := by decide +kernel
theorem dL_law_751 : decode cL_law 751 = .ok (.aload_n 2, 1) := by decide +kernel
theorem dL_law_752 : decode cL_law 752 = .ok (.aload_n 0, 1) := by decide +kernel
theorem dL_law_753 : decode cL_law 753 = .ok (.iload_n 3, 1) := by decide +kernel
theorem dL_law_754 : decode cL_law 754 = .ok (.iconst 1, 1) := by decide +kernel
theorem dL_law_755 : decode cL_law 755 = .ok (.iadd, 1) := by decide +kernel
theorem dL_law_756 : decode cL_law 756 = .ok (.iaload, 1) := by decide +kernel
theorem dL_law_757 : decode cL_law 757 = .ok (.aload_n 0, 1) := by decide +kernel
theorem dL_law_758 : decode cL_law 758 = .ok (.iload_n 3, 1) := by decide +kernel
theorem dL_law_759 : decode cL_law 759 = .ok (.iconst 2, 1) := by decide +kernel
theorem dL_law_760 : decode cL_law 760 = .ok (.iadd, 1) := by decide +kernel
theorem dL_law_761 : decode cL_law 761 = .ok (.iaload, 1) := by decide +kernel
theorem dL_law_762 : decode cL_law 762 = .ok (.aload_n 0, 1) := by decide +kernel
theorem dL_law_763 : decode cL_law 763 = .ok (.iload_n 3, 1) := by decide +kernel
theorem dL_law_764 : decode cL_law 764 = .ok (.iconst 3, 1) := by decide +kernel
theorem dL_law_765 : decode cL_law 765 = .ok (.iadd, 1) := by decide +kernel
theorem dL_law_766 : decode cL_law 766 = .ok (.iaload, 1) := by decide +kernel
theorem dL_law_767 : decode cL_law 767 = .ok (.aload_n 0, 1) := by decide +kernel
theorem dL_law_768 : decode cL_law 768 = .ok (.iload_n 3, 1) := by decide +kernel
theorem dL_law_769 : decode cL_law 769 = .ok (.iconst 4, 1) := by decide +kernel
theorem dL_law_770 : decode cL_law 770 = .ok (.iadd, 1) := by decide +kernel
theorem dL_law_771 : decode cL_law 771 = .ok (.iaload, 1) := by decide +kernel
theorem dL_law_772 : decode cL_law 772 = .ok (.aload_n 0, 1) := by decide +kernel
theorem dL_law_773 : decode cL_law 773 = .ok (.iload_n 3, 1) := by decide +kernel
theorem dL_law_774 : decode cL_law 774 = .ok (.iconst 5, 1) := by decide +kernel
theorem dL_law_775 : decode cL_law 775 = .ok (.iadd, 1) := by decide +kernel
theorem dL_law_776 : decode cL_law 776 = .ok (.iaload, 1) := by decide +kernel
theorem dL_law_777 : decode cL_law 777 = .ok (.ifCond .eq 7, 3) := by decide +kernel
theorem dL_law_780 : decode cL_law 780 = .ok (.iconst 1, 1) := by decide +kernel
theorem dL_law_781 : decode cL_law 781 = .ok (.goto 4, 3) := by decide +kernel
theorem dL_law_784 : decode cL_law 784 = .ok (.iconst 0, 1) := by decide +kernel
theorem dL_law_785 : decode cL_law 785 = .ok (.invokevirtual 110, 3) := by decide +kernel
theorem dL_law_788 : decode cL_law 788 = .ok (.if_icmp .eq 128, 3) := by decide +kernel
theorem dL_law_791 : decode cL_law 791 = .ok (.iconst 0, 1) := by decide +kernel
theorem dL_law_792 : decode cL_law 792 = .ok (.ireturn, 1) := by decide +kernel
theorem dL_law_793 : decode cL_law 793 = .ok (.aload_n 1, 1) := by decide +kernel
theorem dL_law_794 : decode cL_law 794 = .ok (.aload_n 0, 1) := by decide +kernel
theorem dL_law_795 : decode cL_law 795 = .ok (.iload_n 3, 1) := by decide +kernel
theorem dL_law_796 : decode cL_law 796 = .ok (.iconst 1, 1) := by decide +kernel
theorem dL_law_797 : decode cL_law 797 = .ok (.iadd, 1) := by decide +kernel
theorem dL_law_798 : decode cL_law 798 = .ok (.iaload, 1) := by decide +kernel
theorem dL_law_799 : decode cL_law 799 = .ok (.i2l, 1) := by decide +kernel
theorem dL_law_800 : decode cL_law 800 = .ok (.bipush 32, 2) := by decide +kernel
theorem dL_law_802 : decode cL_law 802 = .ok (.lshl, 1) := by decide +kernel
theorem dL_law_803 : decode cL_law 803 = .ok (.aload_n 0, 1) := by decide +kernel
theorem dL_law_804 : decode cL_law 804 = .ok (.iload_n 3, 1) := by decide +kernel
theorem dL_law_805 : decode cL_law 805 = .ok (.iconst 2, 1) := by decide +kernel
theorem dL_law_806 : decode cL_law 806 = .ok (.iadd, 1) := by decide +kernel
theorem dL_law_807 : decode cL_law 807 = .ok (.iaload, 1) := by decide +kernel
theorem dL_law_808 : decode cL_law 808 = .ok (.i2l, 1) := by decide +kernel
theorem dL_law_809 : decode cL_law 809 = .ok (.ldc2_w 111, 3) := by decide +kernel
theorem dL_law_812 : decode cL_law 812 = .ok (.land, 1) := by decide +kernel
theorem dL_law_813 : decode cL_law 813 = .ok (.lor, 1) := by decide +kernel
theorem dL_law_814 : decode cL_law 814 = .ok (.invokevirtual 113, 3) := by decide +kernel
theorem dL_law_817 : decode cL_law 817 = .ok (.aload_n 2, 1) := by decide +kernel
theorem dL_law_818 : decode cL_law 818 = .ok (.aload_n 0, 1) := by decide +kernel
theorem dL_law_819 : decode cL_law 819 = .ok (.iload_n 3, 1) := by decide +kernel
theorem dL_law_820 : decode cL_law 820 = .ok (.iconst 1, 1) := by decide +kernel
theorem dL_law_821 : decode cL_law 821 = .ok (.iadd, 1) := by decide +kernel
theorem dL_law_822 : decode cL_law 822 = .ok (.iaload, 1) := by decide +kernel
theorem dL_law_823 : decode cL_law 823 = .ok (.i2l, 1) := by decide +kernel
theorem dL_law_824 : decode cL_law 824 = .ok (.bipush 32, 2) := by decide +kernel
theorem dL_law_826 : decode cL_law 826 = .ok (.lshl, 1) := by decide +kernel
theorem dL_law_827 : decode cL_law 827 = .ok (.aload_n 0, 1) := by decide +kernel
theorem dL_law_828 : decode cL_law 828 = .ok (.iload_n 3, 1) := by decide +kernel
theorem dL_law_829 : decode cL_law 829 = .ok (.iconst 2, 1) := by decide +kernel
theorem dL_law_830 : decode cL_law 830 = .ok (.iadd, 1) := by decide +kernel
theorem dL_law_831 : decode cL_law 831 = .ok (.iaload, 1) := by decide +kernel
theorem dL_law_832 : decode cL_law 832 = .ok (.i2l, 1) := by decide +kernel
theorem dL_law_833 : decode cL_law 833 = .ok (.ldc2_w 111, 3) := by decide +kernel
theorem dL_law_836 : decode cL_law 836 = .ok (.land, 1) := by decide +kernel
theorem dL_law_837 : decode cL_law 837 = .ok (.lor, 1) := by decide +kernel
theorem dL_law_838 : decode cL_law 838 = .ok (.invokevirtual 117, 3) := by decide +kernel
theorem dL_law_841 : decode cL_law 841 = .ok (.lcmp, 1) := by decide +kernel
theorem dL_law_842 : decode cL_law 842 = .ok (.ifCond .eq 74, 3) := by decide +kernel
theorem dL_law_845 : decode cL_law 845 = .ok (.iconst 0, 1) := by decide +kernel
theorem dL_law_846 : decode cL_law 846 = .ok (.ireturn, 1) := by decide +kernel
theorem dL_law_847 : decode cL_law 847 = .ok (.aload_n 1, 1) := by decide +kernel
theorem dL_law_848 : decode cL_law 848 = .ok (.aload_n 0, 1) := by decide +kernel
theorem dL_law_849 : decode cL_law 849 = .ok (.iload_n 3, 1) := by decide +kernel
theorem dL_law_850 : decode cL_law 850 = .ok (.iconst 1, 1) := by decide +kernel
theorem dL_law_851 : decode cL_law 851 = .ok (.iadd, 1) := by decide +kernel
theorem dL_law_852 : decode cL_law 852 = .ok (.iaload, 1) := by decide +kernel
theorem dL_law_853 : decode cL_law 853 = .ok (.invokevirtual 118, 3) := by decide +kernel
theorem dL_law_856 : decode cL_law 856 = .ok (.aload_n 2, 1) := by decide +kernel
theorem dL_law_857 : decode cL_law 857 = .ok (.aload_n 0, 1) := by decide +kernel
theorem dL_law_858 : decode cL_law 858 = .ok (.iload_n 3, 1) := by decide +kernel
theorem dL_law_859 : decode cL_law 859 = .ok (.iconst 1, 1) := by decide +kernel
theorem dL_law_860 : decode cL_law 860 = .ok (.iadd, 1) := by decide +kernel
theorem dL_law_861 : decode cL_law 861 = .ok (.iaload, 1) := by decide +kernel
theorem dL_law_862 : decode cL_law 862 = .ok (.invokevirtual 121, 3) := by decide +kernel
theorem dL_law_865 : decode cL_law 865 = .ok (.if_icmp .eq 51, 3) := by decide +kernel
theorem dL_law_868 : decode cL_law 868 = .ok (.iconst 0, 1) := by decide +kernel
theorem dL_law_869 : decode cL_law 869 = .ok (.ireturn, 1) := by decide +kernel
theorem dL_law_870 : decode cL_law 870 = .ok (.aload_n 1, 1) := by decide +kernel
theorem dL_law_871 : decode cL_law 871 = .ok (.aload_n 0, 1) := by decide +kernel
theorem dL_law_872 : decode cL_law 872 = .ok (.iload_n 3, 1) := by decide +kernel
theorem dL_law_873 : decode cL_law 873 = .ok (.iconst 1, 1) := by decide +kernel
theorem dL_law_874 : decode cL_law 874 = .ok (.iadd, 1) := by decide +kernel
theorem dL_law_875 : decode cL_law 875 = .ok (.iaload, 1) := by decide +kernel
theorem dL_law_876 : decode cL_law 876 = .ok (.invokevirtual 122, 3) := by decide +kernel
theorem dL_law_879 : decode cL_law 879 = .ok (.aload_n 2, 1) := by decide +kernel
theorem dL_law_880 : decode cL_law 880 = .ok (.aload_n 0, 1) := by decide +kernel
theorem dL_law_881 : decode cL_law 881 = .ok (.iload_n 3, 1) := by decide +kernel
theorem dL_law_882 : decode cL_law 882 = .ok (.iconst 1, 1) := by decide +kernel
theorem dL_law_883 : decode cL_law 883 = .ok (.iadd, 1) := by decide +kernel
theorem dL_law_884 : decode cL_law 884 = .ok (.iaload, 1) := by decide +kernel
theorem dL_law_885 : decode cL_law 885 = .ok (.invokevirtual 125, 3) := by decide +kernel
theorem dL_law_888 : decode cL_law 888 = .ok (.if_icmp .eq 28, 3) := by decide +kernel
theorem dL_law_891 : decode cL_law 891 = .ok (.iconst 0, 1) := by decide +kernel
theorem dL_law_892 : decode cL_law 892 = .ok (.ireturn, 1) := by decide +kernel
theorem dL_law_893 : decode cL_law 893 = .ok (.aload_n 1, 1) := by decide +kernel
theorem dL_law_894 : decode cL_law 894 = .ok (.aload_n 0, 1) := by decide +kernel
theorem dL_law_895 : decode cL_law 895 = .ok (.iload_n 3, 1) := by decide +kernel
theorem dL_law_896 : decode cL_law 896 = .ok (.iconst 1, 1) := by decide +kernel
theorem dL_law_897 : decode cL_law 897 = .ok (.iadd, 1) := by decide +kernel
theorem dL_law_898 : decode cL_law 898 = .ok (.iaload, 1) := by decide +kernel
theorem dL_law_899 : decode cL_law 899 = .ok (.invokevirtual 126, 3) := by decide +kernel
theorem dL_law_902 : decode cL_law 902 = .ok (.aload_n 2, 1) := by decide +kernel
theorem dL_law_903 : decode cL_law 903 = .ok (.aload_n 0, 1) := by decide +kernel
theorem dL_law_904 : decode cL_law 904 = .ok (.iload_n 3, 1) := by decide +kernel
theorem dL_law_905 : decode cL_law 905 = .ok (.iconst 1, 1) := by decide +kernel
theorem dL_law_906 : decode cL_law 906 = .ok (.iadd, 1) := by decide +kernel
theorem dL_law_907 : decode cL_law 907 = .ok (.iaload, 1) := by decide +kernel
theorem dL_law_908 : decode cL_law 908 = .ok (.invokevirtual 129, 3) := by decide +kernel
theorem dL_law_911 : decode cL_law 911 = .ok (.if_icmp .eq 5, 3) := by decide +kernel
theorem dL_law_914 : decode cL_law 914 = .ok (.iconst 0, 1) := by decide +kernel
theorem dL_law_915 : decode cL_law 915 = .ok (.ireturn, 1) := by decide +kernel
theorem dL_law_916 : decode cL_law 916 = .ok (.iinc 3 6, 3) := by decide +kernel
theorem dL_law_919 : decode cL_law 919 = .ok (.goto (-901), 3) := by decide +kernel
theorem dL_law_922 : decode cL_law 922 = .ok (.iconst 1, 1) := by decide +kernel
theorem dL_law_923 : decode cL_law 923 = .ok (.ireturn, 1) := by decide +kernel
end
section
/-! THE LAYER: the heap of both sides as a list of shapes and a memory of numbers; a walk over it, row by row -/
def ks_cl : List vw_C := [(RX0, TX0, 3), (RX1, TX1, 2), (RX2, TX2, 5), (RX3, TX3, 7), (RX4, TX4, 5), (RX5, TX5, 2), (RX6, TX6, 11), (RX7, TX7, 30)]
abbrev ks_S : Type := Nat × Nat × List (Nat × Nat)
abbrev ks_M : Type := Nat → Nat → Nat
abbrev ks_L : Type := Nat → Int64
abbrev ks_G : Type := va_G × ClassId × ClassId × ClassId
/-- a field: (0, _) an int, (1, _) a long, (2, _) null, (3, j) the object j -/
def ks_v (base : Nat) (f : Nat → Nat) (x : Int64) (k : Nat) (d : Nat × Nat) : Value := match d.1 with
  | 0 => .int (nI (f k))
  | 1 => .long x
  | 2 => .null
  | _ => .ref (base + d.2)
def ks_r (base : Nat) (d : List (Nat × Nat)) (k : Nat) : Option Nat := match d[k]? with
  | some (3, j) => some (base + j)
  | _ => none
/-- a shape: (0, ci, fields) an object; (1, n, _) ints; (2, n, _) booleans; (3, n, places) Stands -/
def ks_c (G : ks_G) (base : Nat) (e : ks_S) (f : Nat → Nat) (x : Int64) : va_E := match e.1 with
  | 0 => .inr (e.2.1, e.2.2.mapIdx (ks_v base f x))
  | 1 => .inl (G.2.1, e.2.1, .inl (fun j => nI (f j)))
  | 2 => .inl (G.2.2.1, e.2.1, .inl (fun j => nI (f j)))
  | _ => .inl (G.2.2.2, e.2.1, .inr (.inr (.inr (.inr (ks_r base e.2.2)))))
def ks_w (G : ks_G) (base : Nat) (sh : List ks_S) (M : ks_M) (L : ks_L) : va_W := sh.mapIdx (fun i e => (base + i, ks_c G base e (M i) (L i)))
def ks_R (G : ks_G) (base : Nat) (sh : List ks_S) (M : ks_M) (L : ks_L) (H : Heap) : Prop := va_P G.1 ks_cl (ks_w G base sh M L) H ∧ H.size = base + sh.length
def ks_A (base : Nat) : Nat → Prop := fun q => base ≤ q
def ks_T (G : ks_G) : List (ClassId × FieldType) := [(G.2.1, .int), (G.2.2.1, .boolean), (G.2.2.2, .object RX3)]
def ks_N : List (String × Nat × MethodName × String) := [(RX6, 9, yX5_init, "KeyholeNews"), (RX6, 18, yX4_init, "KeyholeNews"), (RX6, 25, yX3_init, "KeyholeNews"), (RX6, 35, yX0_init, "KeyholeNews"), (RX0, 9, yX6_newStands, "KeyholeNews"), (RX6, 42, yX1_init, "KeyholeNews"), (RX1, 9, yX6_newStands, "KeyholeNews"), (RX1, 21, yX3_init, "KeyholeNews"), (RX6, 49, yX2_init, "KeyholeNews")]
def ks_K (G : ks_G) (U : State) : Prop := va_K G.1 ks_cl (ks_T G) U ∧ va_AO RX3 U ∧ ∀ q ∈ ks_N, va_Nw (.methodLinkNest q.1 q.2.1 q.2.2.1 q.2.2.2) U
theorem ks_K.warm {G : ks_G} {s U : State} (hW : s.WarmedH U.vm) (h : ks_K G s) : ks_K G U := ⟨va_K.moved hW.alike h.1, va_AO.moved hW.alike h.2.1, fun q hq => va_Nw.warmM hW (h.2.2 q hq)⟩
theorem ks_K.same {G : ks_G} {s U : State} (e : s.vm = U.vm) (h : ks_K G s) : ks_K G U := ⟨va_K.moved (by rw [e]; exact Vm.Alike.refl U.vm) h.1, va_AO.moved (by rw [e]; exact Vm.Alike.refl U.vm) h.2.1, fun q hq => va_Nw.same rfl e (h.2.2 q hq)⟩
def ks_all : List Cond := lw_tbl.filter goodWord
theorem ks_nests : ∀ q ∈ ks_N, Cond.methodLinkNest q.1 q.2.1 q.2.2.1 q.2.2.2 ∈ lw_tbl := by decide +kernel
theorem ks_good : GoodIn ks_all ks_all := fun w hw => ⟨hw, good_of_word (List.mem_filter.mp hw).2⟩
def up2 (M : ks_M) (i k n : Nat) : ks_M := fun a b => if a = i ∧ b = k then n else M a b
def upl (L : ks_L) (i : Nat) (x : Int64) : ks_L := fun a => if a = i then x else L a
theorem up2_s (M : ks_M) (i k n : Nat) : up2 M i k n i k = n := by simp [up2]
theorem up2_o {M : ks_M} {i k n a b : Nat} (h : a ≠ i) : up2 M i k n a b = M a b := by simp [up2, h]
theorem up2_k {M : ks_M} {i k n a b : Nat} (h : b ≠ k) : up2 M i k n a b = M a b := by simp [up2, h]
theorem ks_w_get {G : ks_G} {base : Nat} {sh : List ks_S} {M : ks_M} {L : ks_L} {i : Nat} {e : ks_S} (h : sh[i]? = some e) : (ks_w G base sh M L)[i]? = some (base + i, ks_c G base e (M i) (L i)) := by
  simp [ks_w, List.getElem?_mapIdx, h]
theorem ks_w_in {G : ks_G} {base : Nat} {sh : List ks_S} {M : ks_M} {L : ks_L} {i : Nat} {q : Nat × va_E} (h : (ks_w G base sh M L)[i]? = some q) : ∃ e, sh[i]? = some e ∧ q = (base + i, ks_c G base e (M i) (L i)) := by
  rw [ks_w, List.getElem?_mapIdx] at h
  cases hs : sh[i]? with
  | none => rw [hs] at h; cases h
  | some e => rw [hs] at h; exact ⟨e, rfl, (Option.some.inj h).symm⟩
theorem ks_D {G : ks_G} {base : Nat} {sh : List ks_S} {M : ks_M} {L : ks_L} : va_D (ks_A base) (ks_w G base sh M L) := by
  refine ⟨fun i j p q hi hj hpq => ?_, fun k q hk => ?_⟩
  · obtain ⟨e1, h1, g1⟩ := ks_w_in hi
    obtain ⟨e2, h2, g2⟩ := ks_w_in hj
    rw [g1, g2] at hpq
    exact Nat.add_left_cancel hpq
  · obtain ⟨e1, h1, g1⟩ := ks_w_in hk
    rw [g1]
    exact Nat.le_add_right _ _
theorem ks_w_len {G : ks_G} {base : Nat} {sh : List ks_S} {M : ks_M} {L : ks_L} : (ks_w G base sh M L).length = sh.length := by simp [ks_w]
/-- the world behind a change of the object i -/
theorem ks_w_set {G : ks_G} {base : Nat} {sh : List ks_S} {M M' : ks_M} {L L' : ks_L} {i : Nat} {e e' : ks_S} {v : va_E} (h : sh[i]? = some e) (hv : ks_c G base e' (M' i) (L' i) = v) (hM : ∀ j, j ≠ i → M' j = M j) (hL : ∀ j, j ≠ i → L' j = L j) :
    (ks_w G base sh M L).set i (base + i, v) = ks_w G base (sh.set i e') M' L' := by
  have hi : i < sh.length := (List.getElem?_eq_some_iff.mp h).1
  refine List.ext_getElem? fun j => ?_
  by_cases hj : j = i
  · subst hj
    rw [List.getElem?_set_self (by rw [ks_w_len]; exact hi), ks_w_get (e := e') (by rw [List.getElem?_set_self hi]), hv]
  · rw [List.getElem?_set_ne (fun q => hj q.symm), ks_w, ks_w, List.getElem?_mapIdx, List.getElem?_mapIdx, List.getElem?_set_ne (fun q => hj q.symm), hM j hj, hL j hj]
theorem ks_set_self {sh : List ks_S} {i : Nat} {e : ks_S} (h : sh[i]? = some e) : sh.set i e = sh := by
  refine List.ext_getElem? fun j => ?_
  by_cases hj : j = i
  · subst hj
    rw [List.getElem?_set_self (List.getElem?_eq_some_iff.mp h).1, h]
  · rw [List.getElem?_set_ne (fun q => hj q.symm)]
theorem ks_mapIdx_set {base : Nat} {f f' : Nat → Nat} {x x' : Int64} {d : List (Nat × Nat)} {k : Nat} {t t' : Nat × Nat} {v : Value} (hk : d[k]? = some t) (hv : ks_v base f' x' k t' = v) (ho : ∀ j u, j ≠ k → d[j]? = some u → ks_v base f' x' j u = ks_v base f x j u) :
    (d.set k t').mapIdx (ks_v base f' x') = (d.mapIdx (ks_v base f x)).set k v := by
  have hi : k < d.length := (List.getElem?_eq_some_iff.mp hk).1
  refine List.ext_getElem? fun j => ?_
  by_cases hj : j = k
  · subst hj
    rw [List.getElem?_set_self (by rw [List.length_mapIdx]; exact hi), List.getElem?_mapIdx, List.getElem?_set_self hi, Option.map_some, hv]
  · rw [List.getElem?_set_ne (fun q => hj q.symm), List.getElem?_mapIdx, List.getElem?_mapIdx, List.getElem?_set_ne (fun q => hj q.symm)]
    cases hu : d[j]? with
    | none => rfl
    | some u => rw [Option.map_some, Option.map_some, ho j u hj hu]
/-- what the tables say of a kind of objects -/
def ks_ok (ci : Nat) (C : String) (T : u_T) (N : Nat) : Prop := ks_cl[ci]? = some (C, T, N) ∧ (∀ w ∈ u_ws C T N, w ∈ ks_all) ∧ (∃ ty : Nat → FieldType, ∀ k, k < N → parseFieldDescriptor (T k).2.2.1 = some (ty k)) ∧ (∀ a, a < N → ∀ b, b < N → a ≠ b → (T a).2.1 ≠ (T b).2.1)
def ks_lk (own : String) (idx ci : Nat) (C : String) (T : u_T) (N k : Nat) : Prop := ks_ok ci C T N ∧ k < N ∧ Cond.fieldLink own idx (T k).1 (T k).2.1 (T k).2.2.1 ∈ ks_all
theorem kX0 : ks_ok 0 RX0 TX0 3 := ⟨rfl, by decide +kernel, ⟨tyX0, tyX0_ok⟩, nmX0⟩
theorem kX1 : ks_ok 1 RX1 TX1 2 := ⟨rfl, by decide +kernel, ⟨tyX1, tyX1_ok⟩, nmX1⟩
theorem kX2 : ks_ok 2 RX2 TX2 5 := ⟨rfl, by decide +kernel, ⟨tyX2, tyX2_ok⟩, nmX2⟩
theorem kX3 : ks_ok 3 RX3 TX3 7 := ⟨rfl, by decide +kernel, ⟨tyX3, tyX3_ok⟩, nmX3⟩
theorem kX4 : ks_ok 4 RX4 TX4 5 := ⟨rfl, by decide +kernel, ⟨tyX4, tyX4_ok⟩, nmX4⟩
theorem kX5 : ks_ok 5 RX5 TX5 2 := ⟨rfl, by decide +kernel, ⟨tyX5, tyX5_ok⟩, nmX5⟩
theorem kX6 : ks_ok 6 RX6 TX6 11 := ⟨rfl, by decide +kernel, ⟨tyX6, tyX6_ok⟩, nmX6⟩
theorem kX7 : ks_ok 7 RX7 TX7 30 := ⟨rfl, by decide +kernel, ⟨tyX7, tyX7_ok⟩, nmX7⟩
def ks_rm (d mc ms : Nat) : Room := { frames := d, cells := mc, slots := ms, locals := 48 * d }
def ks_Pc (G : ks_G) (base : Nat) (as : List Value) (sh : List ks_S) (M : ks_M) (L : ks_L) : Array Value → State → Prop := va_Pc as (fun U => (ks_R G base sh M L U.heap ∧ ks_K G U))
def ks_Qi (G : ks_G) (base : Nat) (sh : List ks_S) (post : Int32 → ks_M → ks_L → Prop) : Array Value → State → Outcome → State → Prop := va_Qi (S := ks_M × ks_L) (fun r u => post r u.1 u.2) (fun u t => ks_R G base sh u.1 u.2 t.heap) (ks_A base)
def ks_Ql (G : ks_G) (base : Nat) (sh : List ks_S) (post : Int64 → ks_M → ks_L → Prop) : Array Value → State → Outcome → State → Prop := va_Ql (S := ks_M × ks_L) (fun r u => post r u.1 u.2) (fun u t => ks_R G base sh u.1 u.2 t.heap) (ks_A base)
def ks_Qv (G : ks_G) (base : Nat) (sh : List ks_S) (post : ks_M → ks_L → Prop) : Array Value → State → Outcome → State → Prop := va_Qv (S := ks_M × ks_L) (fun u => post u.1 u.2) (fun u t => ks_R G base sh u.1 u.2 t.heap) (ks_A base)
def ks_Qr (G : ks_G) (base : Nat) (sh : List ks_S) (j : Nat) (post : ks_M → ks_L → Prop) : Array Value → State → Outcome → State → Prop := va_Qr (S := ks_M × ks_L) (fun u => post u.1 u.2) (fun u a t => a = base + j ∧ ks_R G base sh u.1 u.2 t.heap) (ks_A base)
/-- contracts: an int (or boolean), a long, nothing, a reference -/
def KI (l : Launch) (G : ks_G) (base d : Nat) (y : MethodName) (cc : ByteArray) (nL : Nat) (rt : FieldType) (as : List Value) (sh : List ks_S) (M : ks_M) (L : ks_L) (post : Int32 → ks_M → ks_L → Prop) : Prop := Met l y (.code y cc nL (some rt) :: ks_all) (ks_rm d 0 0) (ks_Pc G base as sh M L) (ks_Qi G base sh post) 0 0 (ks_A base)
def KL (l : Launch) (G : ks_G) (base d : Nat) (y : MethodName) (cc : ByteArray) (nL : Nat) (as : List Value) (sh : List ks_S) (M : ks_M) (L : ks_L) (post : Int64 → ks_M → ks_L → Prop) : Prop := Met l y (.code y cc nL (some .long) :: ks_all) (ks_rm d 0 0) (ks_Pc G base as sh M L) (ks_Ql G base sh post) 0 0 (ks_A base)
def KV (l : Launch) (G : ks_G) (base d mc ms : Nat) (y : MethodName) (cc : ByteArray) (nL : Nat) (as : List Value) (sh sh' : List ks_S) (M : ks_M) (L : ks_L) (post : ks_M → ks_L → Prop) : Prop := Met l y (.code y cc nL none :: ks_all) (ks_rm d mc ms) (ks_Pc G base as sh M L) (ks_Qv G base sh' post) mc ms (ks_A base)
def KR (l : Launch) (G : ks_G) (base d mc ms : Nat) (y : MethodName) (cc : ByteArray) (nL : Nat) (rt : FieldType) (as : List Value) (sh sh' : List ks_S) (j : Nat) (M : ks_M) (L : ks_L) (post : ks_M → ks_L → Prop) : Prop := Met l y (.code y cc nL (some rt) :: ks_all) (ks_rm d mc ms) (ks_Pc G base as sh M L) (ks_Qr G base sh' j post) mc ms (ks_A base)
theorem kbeq (a b : Nat) : Nat.beq a b = (a == b) := by
  rw [Bool.eq_iff_iff, Nat.beq_eq, beq_iff_eq]
/-- locals: by the first row that names the place -/
def kl : List (Nat × Value) → Nat → Option Value
  | [], _ => none
  | (j, v) :: t, i => bif Nat.beq j i then some v else kl t i
def kdel : List (Nat × Value) → Nat → List (Nat × Value)
  | [], _ => []
  | (j, v) :: t, i => bif (Nat.beq j i || (Nat.beq (j + 1) i && Nat.beq v.category 2)) then kdel t i else (j, v) :: kdel t i
def kdel2 : List (Nat × Value) → Nat → List (Nat × Value)
  | [], _ => []
  | (j, v) :: t, i => bif (Nat.beq j i || (Nat.beq j (i + 1) || (Nat.beq (j + 1) i && Nat.beq v.category 2))) then kdel2 t i else (j, v) :: kdel2 t i
theorem kl_mem {pl : List (Nat × Value)} {i : Nat} {v : Value} (h : kl pl i = some v) : (i, v) ∈ pl := by
  induction pl with
  | nil => cases h
  | cons q t ih =>
    obtain ⟨j, w⟩ := q
    cases e : Nat.beq j i with
    | true =>
      have hji : j = i := Nat.eq_of_beq_eq_true e
      simp only [kl, e, cond_true] at h
      cases h
      subst hji
      exact List.mem_cons_self
    | false =>
      simp only [kl, e, cond_false] at h
      exact List.mem_cons_of_mem _ (ih h)
theorem kl_at {ls : Array Slot} {nL : Nat} {pl : List (Nat × Value)} (h : lv_has ls nL pl) {i : Nat} {v : Value} (hk : kl pl i = some v) : ls[i]? = some (.val v) := h.2.2 (i, v) (kl_mem hk)
theorem kdel_sub {pl : List (Nat × Value)} {i : Nat} : ∀ q ∈ kdel pl i, q ∈ pl.filter (fun q => !(q.1 == i) && !(q.1 + 1 == i && q.2.category == 2)) := by
  induction pl with
  | nil => intro q h; cases h
  | cons q t ih =>
    obtain ⟨j, w⟩ := q
    intro z hz
    cases e : (Nat.beq j i || (Nat.beq (j + 1) i && Nat.beq w.category 2)) with
    | true =>
      simp only [kdel, e, cond_true] at hz
      exact List.mem_filter.mpr ⟨List.mem_cons_of_mem _ (List.mem_filter.mp (ih z hz)).1, (List.mem_filter.mp (ih z hz)).2⟩
    | false =>
      simp only [kdel, e, cond_false] at hz
      rcases List.mem_cons.mp hz with rfl | hz
      · have e' : ((j == i) || ((j + 1 == i) && (w.category == 2))) = false := by rw [← kbeq, ← kbeq, ← kbeq]; exact e
        refine List.mem_filter.mpr ⟨List.mem_cons_self, ?_⟩
        simp only [Bool.or_eq_false_iff] at e'
        simp only [e'.1, e'.2, Bool.not_false, Bool.and_self]
      · exact List.mem_filter.mpr ⟨List.mem_cons_of_mem _ (List.mem_filter.mp (ih z hz)).1, (List.mem_filter.mp (ih z hz)).2⟩
theorem kdel2_sub {pl : List (Nat × Value)} {i : Nat} : ∀ q ∈ kdel2 pl i, q ∈ pl.filter (fun q => !(q.1 == i) && (!(q.1 == i + 1) && !(q.1 + 1 == i && q.2.category == 2))) := by
  induction pl with
  | nil => intro q h; cases h
  | cons q t ih =>
    obtain ⟨j, w⟩ := q
    intro z hz
    cases e : (Nat.beq j i || (Nat.beq j (i + 1) || (Nat.beq (j + 1) i && Nat.beq w.category 2))) with
    | true =>
      simp only [kdel2, e, cond_true] at hz
      exact List.mem_filter.mpr ⟨List.mem_cons_of_mem _ (List.mem_filter.mp (ih z hz)).1, (List.mem_filter.mp (ih z hz)).2⟩
    | false =>
      simp only [kdel2, e, cond_false] at hz
      rcases List.mem_cons.mp hz with rfl | hz
      · have e' : ((j == i) || ((j == i + 1) || ((j + 1 == i) && (w.category == 2)))) = false := by rw [← kbeq, ← kbeq, ← kbeq, ← kbeq]; exact e
        refine List.mem_filter.mpr ⟨List.mem_cons_self, ?_⟩
        simp only [Bool.or_eq_false_iff] at e'
        simp only [e'.1, e'.2.1, e'.2.2, Bool.not_false, Bool.and_self]
      · exact List.mem_filter.mpr ⟨List.mem_cons_of_mem _ (List.mem_filter.mp (ih z hz)).1, (List.mem_filter.mp (ih z hz)).2⟩
def ks1 (pl : List (Nat × Value)) (i : Nat) (v : Value) : List (Nat × Value) := (i, v) :: kdel pl i
def ks2 (pl : List (Nat × Value)) (i : Nat) (v : Value) : List (Nat × Value) := (i, v) :: kdel2 pl i
theorem ks1_has {ls : Array Slot} {nL i : Nat} {v : Value} {pl : List (Nat × Value)} (h : lv_has ls nL ((i, v) :: pl.filter (fun q => !(q.1 == i) && !(q.1 + 1 == i && q.2.category == 2)))) : lv_has ls nL (ks1 pl i v) :=
  ⟨h.1, h.2.1, fun q hq => h.2.2 q ((List.mem_cons.mp hq).elim (fun e => e ▸ List.mem_cons_self) (fun hq => List.mem_cons_of_mem _ (kdel_sub q hq)))⟩
theorem ks2_has {ls : Array Slot} {nL i : Nat} {v : Value} {pl : List (Nat × Value)} (h : lv_has ls nL ((i, v) :: pl.filter (fun q => !(q.1 == i) && (!(q.1 == i + 1) && !(q.1 + 1 == i && q.2.category == 2))))) : lv_has ls nL (ks2 pl i v) :=
  ⟨h.1, h.2.1, fun q hq => h.2.2 q ((List.mem_cons.mp hq).elim (fun e => e ▸ List.mem_cons_self) (fun hq => List.mem_cons_of_mem _ (kdel2_sub q hq)))⟩
/-- rows of locals that the locals hold -/
def kpick (pl : List (Nat × Value)) : List (Nat × Value) → Prop
  | [] => True
  | (i, v) :: t => kl pl i = some v ∧ kpick pl t
theorem kpick_has {ls : Array Slot} {nL : Nat} {pl pl' : List (Nat × Value)} (h : lv_has ls nL pl) (hp : kpick pl pl') : lv_has ls nL pl' := by
  refine ⟨h.1, h.2.1, ?_⟩
  induction pl' with
  | nil => intro q hq; cases hq
  | cons z t ih =>
    obtain ⟨i, v⟩ := z
    intro q hq
    rcases List.mem_cons.mp hq with rfl | hq
    · exact kl_at h hp.1
    · exact ih hp.2 q hq
end
section
/-! THE ROWS: a walk over shapes and a memory, an instruction a row -/
abbrev ks_Cx : Type := Program × Launch × Env × Room × State × MethodId × Array Value × List Frame × Method × Code × (State → Prop)
def KW (K : ks_Cx) (H : Heap) (locs : List Loc) (cells slots : Nat) (g : JFrame) : Prop := W K.1 K.2.1 K.2.2.1 K.2.2.2.1 K.2.2.2.2.1 K.2.2.2.2.2.1 K.2.2.2.2.2.2.1 K.2.2.2.2.2.2.2.1 K.2.2.2.2.2.2.2.2.1 K.2.2.2.2.2.2.2.2.2.1 H locs cells slots K.2.2.2.2.2.2.2.2.2.2 g
def kR (K : ks_Cx) : Room := K.2.2.2.1
def kS (K : ks_Cx) : State := K.2.2.2.2.1
def kM (K : ks_Cx) : MethodId := K.2.2.2.2.2.1
def kA (K : ks_Cx) : Array Value := K.2.2.2.2.2.2.1
def kMe (K : ks_Cx) : Method := K.2.2.2.2.2.2.2.2.1
def kC (K : ks_Cx) : Code := K.2.2.2.2.2.2.2.2.2.1
/-- what holds all through a walk -/
def KX (K : ks_Cx) (G : ks_G) (base nL : Nat) (own : String) (cc : ByteArray) (d : Nat) : Prop :=
  K.1.tables.exec = Jvm.exec ∧ (kC K).code = cc ∧ (kC K).maxLocals = nL ∧ (kS K).vm.findClass own = some (kM K).cls ∧ (∀ w ∈ ks_all, w.before (kA K) (kS K) = true) ∧ ks_K G (kS K) ∧ base ≤ (kS K).heap.size ∧ d ≤ (kR K).frames ∧ 48 * d ≤ (kR K).locals
/-- the walk, from a place of the code, with these shapes, this memory, these locals, this stack -/
def RN (K : ks_Cx) (G : ks_G) (base nL cells slots : Nat) (sh : List ks_S) (M : ks_M) (L : ks_L) (pc : Nat) (pl : List (Nat × Value)) (st : List Value) : Prop :=
  ∀ (H : Heap) (locs : List Loc) (ls : Array Slot), ks_R G base sh M L H → va_S (ks_A base) (kS K).heap H locs → lv_has ls nL pl → KW K H locs cells slots (F0 (kM K) pc ls st)
section ROWS
variable {K : ks_Cx} {G : ks_G} {base nL : Nat} {own : String} {cc : ByteArray} {d cells slots : Nat} {sh : List ks_S} {M : ks_M} {L : ks_L} {pc q : Nat} {pl : List (Nat × Value)} {st : List Value}
theorem r_pl (pl' : List (Nat × Value)) (hp : kpick pl pl') (k : RN K G base nL cells slots sh M L pc pl' st) : RN K G base nL cells slots sh M L pc pl st := fun H locs ls hR hS hl => k H locs ls hR hS (kpick_has hl hp)
theorem r_mem (M' : ks_M) (hM : M = M') (k : RN K G base nL cells slots sh M' L pc pl st) : RN K G base nL cells slots sh M L pc pl st := hM ▸ k
theorem r_st (st' : List Value) (hM : st = st') (k : RN K G base nL cells slots sh M L pc pl st') : RN K G base nL cells slots sh M L pc pl st := hM ▸ k

theorem r_iconst (X : KX K G base nL own cc d) {n : Int} {v : Int32} (hv : Int32.ofInt n = v) (hd : decode cc pc = .ok (.iconst n, 1)) (hq : pc + 1 = q) (k : RN K G base nL cells slots sh M L q pl (.int v :: st)) : RN K G base nL cells slots sh M L pc pl (st) := by
  subst hq
  intro H locs ls hR hS hl
  exact lv_iconst X.1 X.2.1 hd hv (k H locs ls hR hS hl)
theorem r_bipush (X : KX K G base nL own cc d) {n : Int} {v : Int32} (hv : (Int8.ofInt n).toInt32 = v) (hd : decode cc pc = .ok (.bipush n, 2)) (hq : pc + 2 = q) (k : RN K G base nL cells slots sh M L q pl (.int v :: st)) : RN K G base nL cells slots sh M L pc pl (st) := by
  subst hq
  intro H locs ls hR hS hl
  exact lv_bipush X.1 X.2.1 hd hv (k H locs ls hR hS hl)
theorem r_sipush (X : KX K G base nL own cc d) {n : Int} {v : Int32} (hv : (Int16.ofInt n).toInt32 = v) (hd : decode cc pc = .ok (.sipush n, 3)) (hq : pc + 3 = q) (k : RN K G base nL cells slots sh M L q pl (.int v :: st)) : RN K G base nL cells slots sh M L pc pl (st) := by
  subst hq
  intro H locs ls hR hS hl
  exact lv_sipush X.1 X.2.1 hd hv (k H locs ls hR hS hl)
theorem r_lconst (X : KX K G base nL own cc d) {n : Fin 2} {v : Int64} (hv : Int64.ofNat (n : Nat) = v) (hd : decode cc pc = .ok (.lconst n, 1)) (hq : pc + 1 = q) (k : RN K G base nL cells slots sh M L q pl (.long v :: st)) : RN K G base nL cells slots sh M L pc pl (st) := by
  subst hq
  intro H locs ls hR hS hl
  exact lv_lconst X.1 X.2.1 hd hv (k H locs ls hR hS hl)
theorem r_ldc2 (X : KX K G base nL own cc d) {idx : Nat} {v : Int64} (hw : Jvm.Cond.constantLong own idx v ∈ ks_all) (hd : decode cc pc = .ok (.ldc2_w idx, 3)) (hq : pc + 3 = q) (k : RN K G base nL cells slots sh M L q pl (.long v :: st)) : RN K G base nL cells slots sh M L pc pl (st) := by
  subst hq
  intro H locs ls hR hS hl
  exact lv_ldc2 X.1 X.2.1 X.2.2.2.1 (X.2.2.2.2.1 _ hw) hd (k H locs ls hR hS hl)
theorem r_ldcw (X : KX K G base nL own cc d) {idx : Nat} {v : Int32} (hw : Jvm.Cond.constant own idx v ∈ ks_all) (hd : decode cc pc = .ok (.ldc_w idx, 3)) (hq : pc + 3 = q) (k : RN K G base nL cells slots sh M L q pl (.int v :: st)) : RN K G base nL cells slots sh M L pc pl (st) := by
  subst hq
  intro H locs ls hR hS hl
  exact lv_ldcw X.1 X.2.1 X.2.2.2.1 (X.2.2.2.2.1 _ hw) hd (k H locs ls hR hS hl)
theorem r_iload_n (X : KX K G base nL own cc d) {j : Fin 4} {i : Nat} {x : Int32} (hi : (j : Nat) = i) (hv : kl pl i = some (.int x)) (hd : decode cc pc = .ok (.iload_n j, 1)) (hq : pc + 1 = q) (k : RN K G base nL cells slots sh M L q pl (.int x :: st)) : RN K G base nL cells slots sh M L pc pl (st) := by
  subst hq
  intro H locs ls hR hS hl
  exact lv_iload_n X.1 X.2.1 hd hi (kl_at hl hv) (k H locs ls hR hS hl)
theorem r_iload (X : KX K G base nL own cc d) {i : Nat} {x : Int32} (hv : kl pl i = some (.int x)) (hd : decode cc pc = .ok (.iload i, 2)) (hq : pc + 2 = q) (k : RN K G base nL cells slots sh M L q pl (.int x :: st)) : RN K G base nL cells slots sh M L pc pl (st) := by
  subst hq
  intro H locs ls hR hS hl
  exact lv_iload X.1 X.2.1 hd (kl_at hl hv) (k H locs ls hR hS hl)
theorem r_istore_n (X : KX K G base nL own cc d) {j : Fin 4} {i : Nat} {x : Int32} (hi : (j : Nat) = i) (hn : i < nL) (hd : decode cc pc = .ok (.istore_n j, 1)) (hq : pc + 1 = q) (k : RN K G base nL cells slots sh M L q (ks1 pl i (.int x)) (st)) : RN K G base nL cells slots sh M L pc pl (.int x :: st) := by
  subst hq
  intro H locs ls hR hS hl
  exact lv_istore_n X.1 X.2.1 hd hi hl hn rfl (fun ls' h' => k H locs ls' hR hS (ks1_has h'))
theorem r_istore (X : KX K G base nL own cc d) {i : Nat} {x : Int32} (hn : i < nL) (hd : decode cc pc = .ok (.istore i, 2)) (hq : pc + 2 = q) (k : RN K G base nL cells slots sh M L q (ks1 pl i (.int x)) (st)) : RN K G base nL cells slots sh M L pc pl (.int x :: st) := by
  subst hq
  intro H locs ls hR hS hl
  exact lv_istore X.1 X.2.1 hd hl hn rfl (fun ls' h' => k H locs ls' hR hS (ks1_has h'))
theorem r_lload_n (X : KX K G base nL own cc d) {j : Fin 4} {i : Nat} {x : Int64} (hi : (j : Nat) = i) (hv : kl pl i = some (.long x)) (hd : decode cc pc = .ok (.lload_n j, 1)) (hq : pc + 1 = q) (k : RN K G base nL cells slots sh M L q pl (.long x :: st)) : RN K G base nL cells slots sh M L pc pl (st) := by
  subst hq
  intro H locs ls hR hS hl
  exact lv_lload_n X.1 X.2.1 hd hi (kl_at hl hv) (k H locs ls hR hS hl)
theorem r_lload (X : KX K G base nL own cc d) {i : Nat} {x : Int64} (hv : kl pl i = some (.long x)) (hd : decode cc pc = .ok (.lload i, 2)) (hq : pc + 2 = q) (k : RN K G base nL cells slots sh M L q pl (.long x :: st)) : RN K G base nL cells slots sh M L pc pl (st) := by
  subst hq
  intro H locs ls hR hS hl
  exact lv_lload X.1 X.2.1 hd (kl_at hl hv) (k H locs ls hR hS hl)
theorem r_lstore_n (X : KX K G base nL own cc d) {j : Fin 4} {i : Nat} {x : Int64} (hi : (j : Nat) = i) (hn : i + 1 < nL) (hd : decode cc pc = .ok (.lstore_n j, 1)) (hq : pc + 1 = q) (k : RN K G base nL cells slots sh M L q (ks2 pl i (.long x)) (st)) : RN K G base nL cells slots sh M L pc pl (.long x :: st) := by
  subst hq
  intro H locs ls hR hS hl
  exact lv_lstore_n X.1 X.2.1 hd hi hl hn rfl (fun ls' h' => k H locs ls' hR hS (ks2_has h'))
theorem r_lstore (X : KX K G base nL own cc d) {i : Nat} {x : Int64} (hn : i + 1 < nL) (hd : decode cc pc = .ok (.lstore i, 2)) (hq : pc + 2 = q) (k : RN K G base nL cells slots sh M L q (ks2 pl i (.long x)) (st)) : RN K G base nL cells slots sh M L pc pl (.long x :: st) := by
  subst hq
  intro H locs ls hR hS hl
  exact lv_lstore X.1 X.2.1 hd hl hn rfl (fun ls' h' => k H locs ls' hR hS (ks2_has h'))
theorem r_aload_n (X : KX K G base nL own cc d) {j : Fin 4} {i : Nat} {x : Nat} (hi : (j : Nat) = i) (hv : kl pl i = some (.ref x)) (hd : decode cc pc = .ok (.aload_n j, 1)) (hq : pc + 1 = q) (k : RN K G base nL cells slots sh M L q pl (.ref x :: st)) : RN K G base nL cells slots sh M L pc pl (st) := by
  subst hq
  intro H locs ls hR hS hl
  exact lv_aload_n X.1 X.2.1 hd hi (kl_at hl hv) (k H locs ls hR hS hl)
theorem r_aload (X : KX K G base nL own cc d) {i : Nat} {x : Nat} (hv : kl pl i = some (.ref x)) (hd : decode cc pc = .ok (.aload i, 2)) (hq : pc + 2 = q) (k : RN K G base nL cells slots sh M L q pl (.ref x :: st)) : RN K G base nL cells slots sh M L pc pl (st) := by
  subst hq
  intro H locs ls hR hS hl
  exact lv_aload X.1 X.2.1 hd (kl_at hl hv) (k H locs ls hR hS hl)
theorem r_astore_n (X : KX K G base nL own cc d) {j : Fin 4} {i : Nat} {x : Nat} (hi : (j : Nat) = i) (hn : i < nL) (hd : decode cc pc = .ok (.astore_n j, 1)) (hq : pc + 1 = q) (k : RN K G base nL cells slots sh M L q (ks1 pl i (.ref x)) (st)) : RN K G base nL cells slots sh M L pc pl (.ref x :: st) := by
  subst hq
  intro H locs ls hR hS hl
  exact lv_astore_n X.1 X.2.1 hd hi hl hn rfl (fun ls' h' => k H locs ls' hR hS (ks1_has h'))
theorem r_astore (X : KX K G base nL own cc d) {i : Nat} {x : Nat} (hn : i < nL) (hd : decode cc pc = .ok (.astore i, 2)) (hq : pc + 2 = q) (k : RN K G base nL cells slots sh M L q (ks1 pl i (.ref x)) (st)) : RN K G base nL cells slots sh M L pc pl (.ref x :: st) := by
  subst hq
  intro H locs ls hR hS hl
  exact lv_astore X.1 X.2.1 hd hl hn rfl (fun ls' h' => k H locs ls' hR hS (ks1_has h'))
theorem r_iinc (X : KX K G base nL own cc d) {i : Nat} {n : Int} {x v : Int32} (hv : kl pl i = some (.int x)) (hn : i < nL) (he : x + Int32.ofInt n = v) (hd : decode cc pc = .ok (.iinc i n, 3)) (hq : pc + 3 = q) (k : RN K G base nL cells slots sh M L q (ks1 pl i (.int v)) st) : RN K G base nL cells slots sh M L pc pl st := by
  subst hq
  intro H locs ls hR hS hl
  obtain ⟨j, hj⟩ := List.getElem?_of_mem (kl_mem hv)
  exact lv_iinc X.1 X.2.1 hd hl hj he hn rfl (fun ls' h' => k H locs ls' hR hS (ks1_has h'))
theorem r_iaddR (X : KX K G base nL own cc d) {x y v : Int32} (hv : x + y = v) (hd : decode cc pc = .ok (.iadd, 1)) (hq : pc + 1 = q) (k : RN K G base nL cells slots sh M L q pl (.int v :: st)) : RN K G base nL cells slots sh M L pc pl (.int y :: .int x :: st) := by
  subst hq
  subst hv
  intro H locs ls hR hS hl
  exact lv_iadd X.1 X.2.1 hd (k H locs ls hR hS hl)
theorem r_isubR (X : KX K G base nL own cc d) {x y v : Int32} (hv : x - y = v) (hd : decode cc pc = .ok (.isub, 1)) (hq : pc + 1 = q) (k : RN K G base nL cells slots sh M L q pl (.int v :: st)) : RN K G base nL cells slots sh M L pc pl (.int y :: .int x :: st) := by
  subst hq
  subst hv
  intro H locs ls hR hS hl
  exact lv_isub X.1 X.2.1 hd (k H locs ls hR hS hl)
theorem r_imulR (X : KX K G base nL own cc d) {x y v : Int32} (hv : x * y = v) (hd : decode cc pc = .ok (.imul, 1)) (hq : pc + 1 = q) (k : RN K G base nL cells slots sh M L q pl (.int v :: st)) : RN K G base nL cells slots sh M L pc pl (.int y :: .int x :: st) := by
  subst hq
  subst hv
  intro H locs ls hR hS hl
  exact lv_imul X.1 X.2.1 hd (k H locs ls hR hS hl)
theorem r_iandR (X : KX K G base nL own cc d) {x y v : Int32} (hv : x &&& y = v) (hd : decode cc pc = .ok (.iand, 1)) (hq : pc + 1 = q) (k : RN K G base nL cells slots sh M L q pl (.int v :: st)) : RN K G base nL cells slots sh M L pc pl (.int y :: .int x :: st) := by
  subst hq
  subst hv
  intro H locs ls hR hS hl
  exact lv_iand X.1 X.2.1 hd (k H locs ls hR hS hl)
theorem r_iorR (X : KX K G base nL own cc d) {x y v : Int32} (hv : x ||| y = v) (hd : decode cc pc = .ok (.ior, 1)) (hq : pc + 1 = q) (k : RN K G base nL cells slots sh M L q pl (.int v :: st)) : RN K G base nL cells slots sh M L pc pl (.int y :: .int x :: st) := by
  subst hq
  subst hv
  intro H locs ls hR hS hl
  exact lv_ior X.1 X.2.1 hd (k H locs ls hR hS hl)
theorem r_ixorR (X : KX K G base nL own cc d) {x y v : Int32} (hv : x ^^^ y = v) (hd : decode cc pc = .ok (.ixor, 1)) (hq : pc + 1 = q) (k : RN K G base nL cells slots sh M L q pl (.int v :: st)) : RN K G base nL cells slots sh M L pc pl (.int y :: .int x :: st) := by
  subst hq
  subst hv
  intro H locs ls hR hS hl
  exact lv_ixor X.1 X.2.1 hd (k H locs ls hR hS hl)
theorem r_ishlR (X : KX K G base nL own cc d) {x y v : Int32} (hv : x <<< (y &&& 31) = v) (hd : decode cc pc = .ok (.ishl, 1)) (hq : pc + 1 = q) (k : RN K G base nL cells slots sh M L q pl (.int v :: st)) : RN K G base nL cells slots sh M L pc pl (.int y :: .int x :: st) := by
  subst hq
  subst hv
  intro H locs ls hR hS hl
  exact lv_ishl X.1 X.2.1 hd (k H locs ls hR hS hl)
theorem r_ishrR (X : KX K G base nL own cc d) {x y v : Int32} (hv : x >>> (y &&& 31) = v) (hd : decode cc pc = .ok (.ishr, 1)) (hq : pc + 1 = q) (k : RN K G base nL cells slots sh M L q pl (.int v :: st)) : RN K G base nL cells slots sh M L pc pl (.int y :: .int x :: st) := by
  subst hq
  subst hv
  intro H locs ls hR hS hl
  exact lv_ishr X.1 X.2.1 hd (k H locs ls hR hS hl)
theorem r_idivR (X : KX K G base nL own cc d) {x y v : Int32} (h0 : ¬ y = 0) (hv : x / y = v) (hd : decode cc pc = .ok (.idiv, 1)) (hq : pc + 1 = q) (k : RN K G base nL cells slots sh M L q pl (.int v :: st)) : RN K G base nL cells slots sh M L pc pl (.int y :: .int x :: st) := by
  subst hq
  subst hv
  intro H locs ls hR hS hl
  exact lv_idiv X.1 X.2.1 hd h0 (k H locs ls hR hS hl)
theorem r_iremR (X : KX K G base nL own cc d) {x y v : Int32} (h0 : ¬ y = 0) (hv : x - x / y * y = v) (hd : decode cc pc = .ok (.irem, 1)) (hq : pc + 1 = q) (k : RN K G base nL cells slots sh M L q pl (.int v :: st)) : RN K G base nL cells slots sh M L pc pl (.int y :: .int x :: st) := by
  subst hq
  subst hv
  intro H locs ls hR hS hl
  exact lv_irem X.1 X.2.1 hd h0 (k H locs ls hR hS hl)
theorem r_ineg (X : KX K G base nL own cc d) {x : Int32} (hd : decode cc pc = .ok (.ineg, 1)) (hq : pc + 1 = q) (k : RN K G base nL cells slots sh M L q pl (.int (-x) :: st)) : RN K G base nL cells slots sh M L pc pl (.int x :: st) := by
  subst hq
  intro H locs ls hR hS hl
  exact lv_ineg X.1 X.2.1 hd (k H locs ls hR hS hl)
theorem r_iushrR (X : KX K G base nL own cc d) {x y v : Int32} (hv : (x.toUInt32 >>> (y.toUInt32 &&& Int32.toUInt32 31)).toInt32 = v) (hd : decode cc pc = .ok (.iushr, 1)) (hq : pc + 1 = q) (k : RN K G base nL cells slots sh M L q pl (.int v :: st)) : RN K G base nL cells slots sh M L pc pl (.int y :: .int x :: st) := by
  subst hq
  intro H locs ls hR hS hl
  exact lv_iushr X.1 X.2.1 hd hv (k H locs ls hR hS hl)
theorem r_ladd (X : KX K G base nL own cc d) {x y : Int64} (hd : decode cc pc = .ok (.ladd, 1)) (hq : pc + 1 = q) (k : RN K G base nL cells slots sh M L q pl (.long (x + y) :: st)) : RN K G base nL cells slots sh M L pc pl (.long y :: .long x :: st) := by
  subst hq
  intro H locs ls hR hS hl
  exact lv_ladd X.1 X.2.1 hd (k H locs ls hR hS hl)
theorem r_lmul (X : KX K G base nL own cc d) {x y : Int64} (hd : decode cc pc = .ok (.lmul, 1)) (hq : pc + 1 = q) (k : RN K G base nL cells slots sh M L q pl (.long (x * y) :: st)) : RN K G base nL cells slots sh M L pc pl (.long y :: .long x :: st) := by
  subst hq
  intro H locs ls hR hS hl
  exact lv_lmul X.1 X.2.1 hd (k H locs ls hR hS hl)
theorem r_land (X : KX K G base nL own cc d) {x y : Int64} (hd : decode cc pc = .ok (.land, 1)) (hq : pc + 1 = q) (k : RN K G base nL cells slots sh M L q pl (.long (x &&& y) :: st)) : RN K G base nL cells slots sh M L pc pl (.long y :: .long x :: st) := by
  subst hq
  intro H locs ls hR hS hl
  exact lv_land X.1 X.2.1 hd (k H locs ls hR hS hl)
theorem r_lor (X : KX K G base nL own cc d) {x y : Int64} (hd : decode cc pc = .ok (.lor, 1)) (hq : pc + 1 = q) (k : RN K G base nL cells slots sh M L q pl (.long (x ||| y) :: st)) : RN K G base nL cells slots sh M L pc pl (.long y :: .long x :: st) := by
  subst hq
  intro H locs ls hR hS hl
  exact lv_lor X.1 X.2.1 hd (k H locs ls hR hS hl)
theorem r_lsub (X : KX K G base nL own cc d) {x y : Int64} (hd : decode cc pc = .ok (.lsub, 1)) (hq : pc + 1 = q) (k : RN K G base nL cells slots sh M L q pl (.long (x - y) :: st)) : RN K G base nL cells slots sh M L pc pl (.long y :: .long x :: st) := by
  subst hq
  intro H locs ls hR hS hl
  exact lv_lsub X.1 X.2.1 hd (k H locs ls hR hS hl)
theorem r_lrem (X : KX K G base nL own cc d) {x y : Int64} (h0 : ¬ y = 0) (hd : decode cc pc = .ok (.lrem, 1)) (hq : pc + 1 = q) (k : RN K G base nL cells slots sh M L q pl (.long (x - x / y * y) :: st)) : RN K G base nL cells slots sh M L pc pl (.long y :: .long x :: st) := by
  subst hq
  intro H locs ls hR hS hl
  exact lv_lrem X.1 X.2.1 hd h0 (k H locs ls hR hS hl)
theorem r_lushr (X : KX K G base nL own cc d) {x v : Int64} {y : Int32} (hv : (x.toUInt64 >>> (y.toInt64.toUInt64 &&& Int64.toUInt64 63)).toInt64 = v) (hd : decode cc pc = .ok (.lushr, 1)) (hq : pc + 1 = q) (k : RN K G base nL cells slots sh M L q pl (.long v :: st)) : RN K G base nL cells slots sh M L pc pl (.int y :: .long x :: st) := by
  subst hq
  intro H locs ls hR hS hl
  exact lv_lushr X.1 X.2.1 hd hv (k H locs ls hR hS hl)
theorem r_lshl (X : KX K G base nL own cc d) {x v : Int64} {y : Int32} (hv : x <<< (y.toInt64 &&& 63) = v) (hd : decode cc pc = .ok (.lshl, 1)) (hq : pc + 1 = q) (k : RN K G base nL cells slots sh M L q pl (.long v :: st)) : RN K G base nL cells slots sh M L pc pl (.int y :: .long x :: st) := by
  subst hq
  intro H locs ls hR hS hl
  exact lv_lshl X.1 X.2.1 hd hv (k H locs ls hR hS hl)
theorem r_i2l (X : KX K G base nL own cc d) {x : Int32} {v : Int64} (hv : x.toInt64 = v) (hd : decode cc pc = .ok (.i2l, 1)) (hq : pc + 1 = q) (k : RN K G base nL cells slots sh M L q pl (.long v :: st)) : RN K G base nL cells slots sh M L pc pl (.int x :: st) := by
  subst hq
  intro H locs ls hR hS hl
  exact lv_i2l X.1 X.2.1 hd hv (k H locs ls hR hS hl)
theorem r_l2i (X : KX K G base nL own cc d) {x : Int64} {v : Int32} (hv : x.toInt32 = v) (hd : decode cc pc = .ok (.l2i, 1)) (hq : pc + 1 = q) (k : RN K G base nL cells slots sh M L q pl (.int v :: st)) : RN K G base nL cells slots sh M L pc pl (.long x :: st) := by
  subst hq
  intro H locs ls hR hS hl
  exact lv_l2i X.1 X.2.1 hd hv (k H locs ls hR hS hl)
theorem r_lcmp (X : KX K G base nL own cc d) {x y : Int64} (hd : decode cc pc = .ok (.lcmp, 1)) (hq : pc + 1 = q) (k : RN K G base nL cells slots sh M L q pl (.int (lg_cmp x y) :: st)) : RN K G base nL cells slots sh M L pc pl (.long y :: .long x :: st) := by
  subst hq
  intro H locs ls hR hS hl
  exact W.lcmp X.1 X.2.1 hd (k H locs ls hR hS hl)
theorem r_dup (X : KX K G base nL own cc d) {va : Value} (hc : va.category = 1) (hd : decode cc pc = .ok (.dup, 1)) (hq : pc + 1 = q) (k : RN K G base nL cells slots sh M L q pl (va :: va :: st)) : RN K G base nL cells slots sh M L pc pl (va :: st) := by
  subst hq
  intro H locs ls hR hS hl
  exact lv_dup X.1 X.2.1 hd hc (k H locs ls hR hS hl)
theorem r_pop (X : KX K G base nL own cc d) {va : Value} (hc : va.category = 1) (hd : decode cc pc = .ok (.pop, 1)) (hq : pc + 1 = q) (k : RN K G base nL cells slots sh M L q pl (st)) : RN K G base nL cells slots sh M L pc pl (va :: st) := by
  subst hq
  intro H locs ls hR hS hl
  exact lv_pop X.1 X.2.1 hd hc (k H locs ls hR hS hl)
theorem r_dup2 (X : KX K G base nL own cc d) {va vb : Value} (hc : va.category = 1) (hb : vb.category = 1) (hd : decode cc pc = .ok (.dup2, 1)) (hq : pc + 1 = q) (k : RN K G base nL cells slots sh M L q pl (va :: vb :: va :: vb :: st)) : RN K G base nL cells slots sh M L pc pl (va :: vb :: st) := by
  subst hq
  intro H locs ls hR hS hl
  exact lv_dup2_11 X.1 X.2.1 hd hc hb (k H locs ls hR hS hl)
theorem r_if_eq (X : KX K G base nL own cc d) {x : Int32} {off : Int} {tgt : Nat} (ht : (pc : Int) + off = (tgt : Int)) (hd : decode cc pc = .ok (.ifCond .eq off, 3)) (hq : pc + 3 = q) (kt : x = 0 → RN K G base nL cells slots sh M L tgt pl (st)) (kf : ¬ x = 0 → RN K G base nL cells slots sh M L q pl (st)) : RN K G base nL cells slots sh M L pc pl (.int x :: st) := by
  subst hq
  intro H locs ls hR hS hl
  exact lv_if_eq X.1 X.2.1 hd ht (fun h => kt h H locs ls hR hS hl) (fun h => kf h H locs ls hR hS hl)
theorem r_icmp_eq (X : KX K G base nL own cc d) {x y : Int32} {off : Int} {tgt : Nat} (ht : (pc : Int) + off = (tgt : Int)) (hd : decode cc pc = .ok (.if_icmp .eq off, 3)) (hq : pc + 3 = q) (kt : x = y → RN K G base nL cells slots sh M L tgt pl (st)) (kf : ¬ x = y → RN K G base nL cells slots sh M L q pl (st)) : RN K G base nL cells slots sh M L pc pl (.int y :: .int x :: st) := by
  subst hq
  intro H locs ls hR hS hl
  exact lv_icmp_eq X.1 X.2.1 hd ht (fun h => kt h H locs ls hR hS hl) (fun h => kf h H locs ls hR hS hl)
theorem r_if_ne (X : KX K G base nL own cc d) {x : Int32} {off : Int} {tgt : Nat} (ht : (pc : Int) + off = (tgt : Int)) (hd : decode cc pc = .ok (.ifCond .ne off, 3)) (hq : pc + 3 = q) (kt : ¬ x = 0 → RN K G base nL cells slots sh M L tgt pl (st)) (kf : x = 0 → RN K G base nL cells slots sh M L q pl (st)) : RN K G base nL cells slots sh M L pc pl (.int x :: st) := by
  subst hq
  intro H locs ls hR hS hl
  exact lv_if_ne X.1 X.2.1 hd ht (fun h => kt h H locs ls hR hS hl) (fun h => kf h H locs ls hR hS hl)
theorem r_icmp_ne (X : KX K G base nL own cc d) {x y : Int32} {off : Int} {tgt : Nat} (ht : (pc : Int) + off = (tgt : Int)) (hd : decode cc pc = .ok (.if_icmp .ne off, 3)) (hq : pc + 3 = q) (kt : ¬ x = y → RN K G base nL cells slots sh M L tgt pl (st)) (kf : x = y → RN K G base nL cells slots sh M L q pl (st)) : RN K G base nL cells slots sh M L pc pl (.int y :: .int x :: st) := by
  subst hq
  intro H locs ls hR hS hl
  exact lv_icmp_ne X.1 X.2.1 hd ht (fun h => kt h H locs ls hR hS hl) (fun h => kf h H locs ls hR hS hl)
theorem r_if_lt (X : KX K G base nL own cc d) {x : Int32} {off : Int} {tgt : Nat} (ht : (pc : Int) + off = (tgt : Int)) (hd : decode cc pc = .ok (.ifCond .lt off, 3)) (hq : pc + 3 = q) (kt : x < 0 → RN K G base nL cells slots sh M L tgt pl (st)) (kf : ¬ x < 0 → RN K G base nL cells slots sh M L q pl (st)) : RN K G base nL cells slots sh M L pc pl (.int x :: st) := by
  subst hq
  intro H locs ls hR hS hl
  exact lv_if_lt X.1 X.2.1 hd ht (fun h => kt h H locs ls hR hS hl) (fun h => kf h H locs ls hR hS hl)
theorem r_icmp_lt (X : KX K G base nL own cc d) {x y : Int32} {off : Int} {tgt : Nat} (ht : (pc : Int) + off = (tgt : Int)) (hd : decode cc pc = .ok (.if_icmp .lt off, 3)) (hq : pc + 3 = q) (kt : x < y → RN K G base nL cells slots sh M L tgt pl (st)) (kf : ¬ x < y → RN K G base nL cells slots sh M L q pl (st)) : RN K G base nL cells slots sh M L pc pl (.int y :: .int x :: st) := by
  subst hq
  intro H locs ls hR hS hl
  exact lv_icmp_lt X.1 X.2.1 hd ht (fun h => kt h H locs ls hR hS hl) (fun h => kf h H locs ls hR hS hl)
theorem r_if_ge (X : KX K G base nL own cc d) {x : Int32} {off : Int} {tgt : Nat} (ht : (pc : Int) + off = (tgt : Int)) (hd : decode cc pc = .ok (.ifCond .ge off, 3)) (hq : pc + 3 = q) (kt : 0 ≤ x → RN K G base nL cells slots sh M L tgt pl (st)) (kf : ¬ 0 ≤ x → RN K G base nL cells slots sh M L q pl (st)) : RN K G base nL cells slots sh M L pc pl (.int x :: st) := by
  subst hq
  intro H locs ls hR hS hl
  exact lv_if_ge X.1 X.2.1 hd ht (fun h => kt h H locs ls hR hS hl) (fun h => kf h H locs ls hR hS hl)
theorem r_icmp_ge (X : KX K G base nL own cc d) {x y : Int32} {off : Int} {tgt : Nat} (ht : (pc : Int) + off = (tgt : Int)) (hd : decode cc pc = .ok (.if_icmp .ge off, 3)) (hq : pc + 3 = q) (kt : y ≤ x → RN K G base nL cells slots sh M L tgt pl (st)) (kf : ¬ y ≤ x → RN K G base nL cells slots sh M L q pl (st)) : RN K G base nL cells slots sh M L pc pl (.int y :: .int x :: st) := by
  subst hq
  intro H locs ls hR hS hl
  exact lv_icmp_ge X.1 X.2.1 hd ht (fun h => kt h H locs ls hR hS hl) (fun h => kf h H locs ls hR hS hl)
theorem r_if_gt (X : KX K G base nL own cc d) {x : Int32} {off : Int} {tgt : Nat} (ht : (pc : Int) + off = (tgt : Int)) (hd : decode cc pc = .ok (.ifCond .gt off, 3)) (hq : pc + 3 = q) (kt : 0 < x → RN K G base nL cells slots sh M L tgt pl (st)) (kf : ¬ 0 < x → RN K G base nL cells slots sh M L q pl (st)) : RN K G base nL cells slots sh M L pc pl (.int x :: st) := by
  subst hq
  intro H locs ls hR hS hl
  exact lv_if_gt X.1 X.2.1 hd ht (fun h => kt h H locs ls hR hS hl) (fun h => kf h H locs ls hR hS hl)
theorem r_icmp_gt (X : KX K G base nL own cc d) {x y : Int32} {off : Int} {tgt : Nat} (ht : (pc : Int) + off = (tgt : Int)) (hd : decode cc pc = .ok (.if_icmp .gt off, 3)) (hq : pc + 3 = q) (kt : y < x → RN K G base nL cells slots sh M L tgt pl (st)) (kf : ¬ y < x → RN K G base nL cells slots sh M L q pl (st)) : RN K G base nL cells slots sh M L pc pl (.int y :: .int x :: st) := by
  subst hq
  intro H locs ls hR hS hl
  exact lv_icmp_gt X.1 X.2.1 hd ht (fun h => kt h H locs ls hR hS hl) (fun h => kf h H locs ls hR hS hl)
theorem r_if_le (X : KX K G base nL own cc d) {x : Int32} {off : Int} {tgt : Nat} (ht : (pc : Int) + off = (tgt : Int)) (hd : decode cc pc = .ok (.ifCond .le off, 3)) (hq : pc + 3 = q) (kt : x ≤ 0 → RN K G base nL cells slots sh M L tgt pl (st)) (kf : ¬ x ≤ 0 → RN K G base nL cells slots sh M L q pl (st)) : RN K G base nL cells slots sh M L pc pl (.int x :: st) := by
  subst hq
  intro H locs ls hR hS hl
  exact lv_if_le X.1 X.2.1 hd ht (fun h => kt h H locs ls hR hS hl) (fun h => kf h H locs ls hR hS hl)
theorem r_icmp_le (X : KX K G base nL own cc d) {x y : Int32} {off : Int} {tgt : Nat} (ht : (pc : Int) + off = (tgt : Int)) (hd : decode cc pc = .ok (.if_icmp .le off, 3)) (hq : pc + 3 = q) (kt : x ≤ y → RN K G base nL cells slots sh M L tgt pl (st)) (kf : ¬ x ≤ y → RN K G base nL cells slots sh M L q pl (st)) : RN K G base nL cells slots sh M L pc pl (.int y :: .int x :: st) := by
  subst hq
  intro H locs ls hR hS hl
  exact lv_icmp_le X.1 X.2.1 hd ht (fun h => kt h H locs ls hR hS hl) (fun h => kf h H locs ls hR hS hl)
theorem r_goto (X : KX K G base nL own cc d) {off : Int} {tgt : Nat} (ht : (pc : Int) + off = (tgt : Int)) (hd : decode cc pc = .ok (.goto off, 3)) (k : RN K G base nL cells slots sh M L tgt pl (st)) : RN K G base nL cells slots sh M L pc pl (st) := by
  intro H locs ls hR hS hl
  exact lv_goto X.1 X.2.1 hd ht (k H locs ls hR hS hl)
theorem r_tableOut (X : KX K G base nL own cc d) {dflt lo hi : Int} {offs : Array Int} {len : Nat} {x : Int32} {tgt : Nat} (h : x.toInt < lo ∨ hi < x.toInt) (ht : (pc : Int) + dflt = (tgt : Int)) (hd : decode cc pc = .ok (.tableswitch dflt lo hi offs, len)) (k : RN K G base nL cells slots sh M L tgt pl (st)) : RN K G base nL cells slots sh M L pc pl (.int x :: st) := by
  intro H locs ls hR hS hl
  exact lv_tableOut X.1 X.2.1 hd h ht (k H locs ls hR hS hl)
theorem r_tableIn (X : KX K G base nL own cc d) {dflt lo hi : Int} {offs : Array Int} {len : Nat} {x : Int32} {off : Int} {tgt : Nat} (h1 : ¬ x.toInt < lo) (h2 : ¬ hi < x.toInt) (ho : offs[(x.toInt - lo).toNat]? = some off) (ht : (pc : Int) + off = (tgt : Int)) (hd : decode cc pc = .ok (.tableswitch dflt lo hi offs, len)) (k : RN K G base nL cells slots sh M L tgt pl (st)) : RN K G base nL cells slots sh M L pc pl (.int x :: st) := by
  intro H locs ls hR hS hl
  exact lv_tableIn X.1 X.2.1 hd h1 h2 ho ht (k H locs ls hR hS hl)
theorem r_getf (X : KX K G base nL own cc d) {idx ci N f i : Nat} {C : String} {T : u_T} {ds : List (Nat × Nat)} {t : Nat × Nat} {v : Value} (hk : ks_lk own idx ci C T N f) (hs : sh[i]? = some (0, ci, ds)) (ht : ds[f]? = some t) (hv : ks_v base (M i) (L i) f t = v) (hd : decode cc pc = .ok (.getfield idx, 3)) (hq : pc + 3 = q) (k : RN K G base nL cells slots sh M L q pl (v :: st)) : RN K G base nL cells slots sh M L pc pl (.ref (base + i) :: st) := by
  subst hq
  intro H locs ls hR hS hl
  obtain ⟨⟨h1, h2, -, -⟩, h5, h6⟩ := hk
  have he : (ks_w G base sh M L)[i]? = some (base + i, .inr (ci, ds.mapIdx (ks_v base (M i) (L i)))) := ks_w_get hs
  exact va_get (D := G.1) (ci := ci) (v := v) X.1 X.2.1 X.2.2.2.2.1 h2 X.2.2.2.1 X.2.2.2.2.2.1.1 hR.1 i he h1 f h5 (X.2.2.2.2.1 _ h6) (fun _ h => h) (by rw [List.getElem?_mapIdx, ht, Option.map_some, hv]) hd (k H locs ls hR hS hl)
end ROWS
end
section
/-! THE ROWS that write: fields and arrays -/
section ROWS
variable {K : ks_Cx} {G : ks_G} {base nL : Nat} {own : String} {cc : ByteArray} {d cells slots : Nat} {sh : List ks_S} {M : ks_M} {L : ks_L} {pc q : Nat} {pl : List (Nat × Value)} {st : List Value}
theorem ks_wput (X : KX K G base nL own cc d) {H : Heap} {locs : List Loc} {ls : Array Slot} (hR : ks_R G base sh M L H) (hS : va_S (ks_A base) (kS K).heap H locs) {idx ci N f i : Nat} {C : String} {T : u_T} {ds : List (Nat × Nat)} {ty : FieldType} {v : Value} (hk : ks_lk own idx ci C T N f) (hfin : (T f).2.2.2 = false) (hp : parseFieldDescriptor (T f).2.2.1 = some ty) (hn : narrow ty v = v) (hfit : fits ty v = true) (hs : sh[i]? = some (0, ci, ds)) (hl : f < ds.length) (hd : decode cc pc = .ok (.putfield idx, 3))
    (kk : ∀ (H1 : Heap) (locs1 : List Loc), va_P G.1 ks_cl ((ks_w G base sh M L).set i (base + i, .inr (ci, (ds.mapIdx (ks_v base (M i) (L i))).set f v))) H1 → H1.size = H.size → va_S (ks_A base) (kS K).heap H1 locs1 → KW K H1 locs1 cells slots (F0 (kM K) (pc + 3) ls st)) : KW K H locs cells slots (F0 (kM K) pc ls (v :: .ref (base + i) :: st)) := by
  obtain ⟨⟨g1, g2, ⟨ty0, g3⟩, g4⟩, g5, g6⟩ := hk
  have he : (ks_w G base sh M L)[i]? = some (base + i, .inr (ci, ds.mapIdx (ks_v base (M i) (L i)))) := ks_w_get hs
  have hap := va_apart (own := own) X.2.2.2.2.1 g2 ty0 g3 g4 X.2.2.2.2.2.1.1 g1
  obtain ⟨r, z1, cell, z2, z3, z4, z5⟩ := hR.1 i _ he
  obtain rfl : r = (C, T, N) := Option.some.inj (z1.symm.trans g1)
  obtain ⟨y1, y2, kC, y3, y4⟩ := X.2.2.2.2.2.1.1.1 ci _ g1
  obtain ⟨cf, kf, fi, fl, x1, x2⟩ := y1 f g5
  have hlay := X.2.2.2.2.1 _ (g2 _ (u_in_lay g5))
  unfold u_lay at hlay
  rw [if_neg (by rw [hfin]; decide)] at hlay
  have hst := (u_facts y2 y3 (u_lays X.2.2.2.2.1 g2 g5) x1).1
  have h6 := u_store y2 y3 y4 hlay x1 hp hn hfit
  refine W.putK X.1 X.2.1 (f := fl) ⟨X.2.2.2.1, X.2.2.2.2.1 _ g6, ⟨_, _, _, x1⟩, hst⟩ (by rw [z3]; exact h6) z2 z4 (by rw [x2]; exact k2_hasslot (z5 f g5)) rfl rfl hd fun H1 e1 e2 e3 => ?_
  rw [x2] at e1 ⊢
  exact kk H1 _ (hR.1.set ks_D he ⟨_, g1, t_OB.to (V := updV (vp_V _) f v) ⟨_, e1, z3, z4, t_set z5 hap g5 v⟩ (fun j _ => vp_updV_set (by rw [List.length_mapIdx]; exact hl) v j)⟩ e3) e2 (hS.put e2 e3 (Nat.le_add_right _ _))
theorem ks_wputF (X : KX K G base nL own cc d) {H : Heap} {locs : List Loc} {ls : Array Slot} (hR : ks_R G base sh M L H) (hS : va_S (ks_A base) (kS K).heap H locs) {idx ci N f i : Nat} {C : String} {T : u_T} {ds : List (Nat × Nat)} {ty : FieldType} {v : Value} (hk : ks_lk own idx ci C T N f) (hfin : (T f).2.2.2 = true) (hin2 : (kMe K).name = "<init>") (hdecl : (T f).1 = own) (hp : parseFieldDescriptor (T f).2.2.1 = some ty) (hn : narrow ty v = v) (hfit : fits ty v = true) (hs : sh[i]? = some (0, ci, ds)) (hl : f < ds.length) (hd : decode cc pc = .ok (.putfield idx, 3))
    (kk : ∀ (H1 : Heap) (locs1 : List Loc), va_P G.1 ks_cl ((ks_w G base sh M L).set i (base + i, .inr (ci, (ds.mapIdx (ks_v base (M i) (L i))).set f v))) H1 → H1.size = H.size → va_S (ks_A base) (kS K).heap H1 locs1 → KW K H1 locs1 cells slots (F0 (kM K) (pc + 3) ls st)) : KW K H locs cells slots (F0 (kM K) pc ls (v :: .ref (base + i) :: st)) := by
  obtain ⟨⟨g1, g2, ⟨ty0, g3⟩, g4⟩, g5, g6⟩ := hk
  have he : (ks_w G base sh M L)[i]? = some (base + i, .inr (ci, ds.mapIdx (ks_v base (M i) (L i)))) := ks_w_get hs
  have hap := va_apart (own := own) X.2.2.2.2.1 g2 ty0 g3 g4 X.2.2.2.2.2.1.1 g1
  obtain ⟨r, z1, cell, z2, z3, z4, z5⟩ := hR.1 i _ he
  obtain rfl : r = (C, T, N) := Option.some.inj (z1.symm.trans g1)
  obtain ⟨y1, y2, kC, y3, y4⟩ := X.2.2.2.2.2.1.1.1 ci _ g1
  obtain ⟨cf, kf, fi, fl, x1, x2⟩ := y1 f g5
  have hlay := X.2.2.2.2.1 _ (g2 _ (u_in_lay g5))
  unfold u_lay at hlay
  rw [if_pos hfin] at hlay
  have hst := (u_facts y2 y3 (u_lays X.2.2.2.2.1 g2 g5) x1).1
  have hcf : (kM K).cls = cf := by
    obtain ⟨_, _, c2, _, _, _, -, -, w1, -, -, -, w2, -⟩ := Cond.laysFinal_spec hlay
    have w3 : c2 = cf := by have w4 := x1.symm.trans w1; simp at w4; exact w4.1.symm
    rw [hdecl] at w2
    rw [← w3]; exact Option.some.inj (X.2.2.2.1.symm.trans w2)
  have h6 := u_fits y2 y3 y4 (Or.inr hlay) x1 hp hn hfit
  refine W.putFinK X.1 X.2.1 X.2.2.2.1 (X.2.2.2.2.1 _ g6) x1 hst hcf hin2 (by rw [z3]; exact h6) z2 z4 (by rw [x2]; exact k2_hasslot (z5 f g5)) rfl rfl hd fun H1 e1 e2 e3 => ?_
  rw [x2] at e1 ⊢
  exact kk H1 _ (hR.1.set ks_D he ⟨_, g1, t_OB.to (V := updV (vp_V _) f v) ⟨_, e1, z3, z4, t_set z5 hap g5 v⟩ (fun j _ => vp_updV_set (by rw [List.length_mapIdx]; exact hl) v j)⟩ e3) e2 (hS.put e2 e3 (Nat.le_add_right _ _))
theorem ks_setd {ds : List (Nat × Nat)} {f : Nat} {t : Nat × Nat} (ht : ds[f]? = some t) : ds.set f t = ds := by
  refine List.ext_getElem? fun j => ?_
  by_cases hj : j = f
  · subst hj; rw [List.getElem?_set_self (List.getElem?_eq_some_iff.mp ht).1, ht]
  · rw [List.getElem?_set_ne (fun q => hj q.symm)]
theorem r_puti (X : KX K G base nL own cc d) {idx ci N f i z n : Nat} {C : String} {T : u_T} {ds : List (Nat × Nat)} (hk : ks_lk own idx ci C T N f) (hp : (T f).2.2.2 = false ∧ parseFieldDescriptor (T f).2.2.1 = some .int) (hs : sh[i]? = some (0, ci, ds)) (ht : ds[f]? = some (0, z)) (hd : decode cc pc = .ok (.putfield idx, 3)) (hq : pc + 3 = q) (k : RN K G base nL cells slots sh (up2 M i f n) L q pl st) : RN K G base nL cells slots sh M L pc pl (.int (nI n) :: .ref (base + i) :: st) := by
  subst hq
  intro H locs ls hR hS hl
  refine ks_wput X (ls := ls) hR hS hk hp.1 hp.2 rfl rfl hs (List.getElem?_eq_some_iff.mp ht).1 hd (fun H1 locs1 hP1 hz hS1 => k H1 locs1 ls ⟨?_, hz.trans hR.2⟩ hS1 hl)
  have hset := ks_w_set (G := G) (base := base) (M := M) (M' := up2 M i f n) (L := L) (L' := L) (e' := (0, ci, ds)) (v := .inr (ci, (ds.mapIdx (ks_v base (M i) (L i))).set f (.int (nI n)))) hs (by
    have h9 := ks_mapIdx_set (base := base) (f := M i) (f' := up2 M i f n i) (x := L i) (x' := L i) (t' := (0, z)) (v := .int (nI n)) ht (by show Value.int (nI (up2 M i f n i f)) = _; rw [up2_s]) (fun j u hj _ => by
      unfold ks_v; rw [up2_k hj])
    rw [ks_setd ht] at h9
    exact congrArg (fun z => (Sum.inr (ci, z) : va_E)) h9) (fun j hj => by funext b; exact up2_o hj) (fun _ _ => rfl)
  rw [ks_set_self hs] at hset
  rw [← hset]
  exact hP1
theorem r_putl (X : KX K G base nL own cc d) {idx ci N f i z : Nat} {x : Int64} {C : String} {T : u_T} {ds : List (Nat × Nat)} (hk : ks_lk own idx ci C T N f) (hp : (T f).2.2.2 = false ∧ parseFieldDescriptor (T f).2.2.1 = some .long) (hs : sh[i]? = some (0, ci, ds)) (ht : ds[f]? = some (1, z)) (ho : ∀ j u, j ≠ f → ds[j]? = some u → u.1 ≠ 1) (hd : decode cc pc = .ok (.putfield idx, 3)) (hq : pc + 3 = q) (k : RN K G base nL cells slots sh M (upl L i x) q pl st) : RN K G base nL cells slots sh M L pc pl (.long x :: .ref (base + i) :: st) := by
  subst hq
  intro H locs ls hR hS hl
  refine ks_wput X (ls := ls) hR hS hk hp.1 hp.2 rfl rfl hs (List.getElem?_eq_some_iff.mp ht).1 hd (fun H1 locs1 hP1 hz hS1 => k H1 locs1 ls ⟨?_, hz.trans hR.2⟩ hS1 hl)
  have hset := ks_w_set (G := G) (base := base) (M := M) (M' := M) (L := L) (L' := upl L i x) (e' := (0, ci, ds)) (v := .inr (ci, (ds.mapIdx (ks_v base (M i) (L i))).set f (.long x))) hs (by
    have h9 := ks_mapIdx_set (base := base) (f := M i) (f' := M i) (x := L i) (x' := upl L i x i) (t' := (1, z)) (v := .long x) ht (by show Value.long (upl L i x i) = _; simp [upl]) (fun j u hj hu => by
      have h1 := ho j u hj hu
      obtain ⟨u1, u2⟩ := u
      match u1, h1 with
      | 0, _ => rfl
      | 1, h => exact absurd rfl h
      | 2, _ => rfl
      | n + 3, _ => rfl)
    rw [ks_setd ht] at h9
    exact congrArg (fun z => (Sum.inr (ci, z) : va_E)) h9) (fun _ _ => rfl) (fun j hj => by simp [upl, hj])
  rw [ks_set_self hs] at hset
  rw [← hset]
  exact hP1
theorem r_putr (X : KX K G base nL own cc d) {idx ci N f i j : Nat} {C : String} {T : u_T} {ds : List (Nat × Nat)} {t : Nat × Nat} {ty : FieldType} (hk : ks_lk own idx ci C T N f) (hin2 : (kMe K).name = "<init>") (hp : ((T f).2.2.2 = true ∧ (T f).1 = own) ∧ parseFieldDescriptor (T f).2.2.1 = some ty) (hn : narrow ty (.ref (base + j)) = .ref (base + j) ∧ fits ty (.ref (base + j)) = true) (hs : sh[i]? = some (0, ci, ds)) (ht : ds[f]? = some t) (hd : decode cc pc = .ok (.putfield idx, 3)) (hq : pc + 3 = q) (k : RN K G base nL cells slots (sh.set i (0, ci, ds.set f (3, j))) M L q pl st) : RN K G base nL cells slots sh M L pc pl (.ref (base + j) :: .ref (base + i) :: st) := by
  subst hq
  intro H locs ls hR hS hl
  refine ks_wputF X (ls := ls) hR hS hk hp.1.1 hin2 hp.1.2 hp.2 hn.1 hn.2 hs (List.getElem?_eq_some_iff.mp ht).1 hd (fun H1 locs1 hP1 hz hS1 => k H1 locs1 ls ⟨?_, (hz.trans hR.2).trans (by rw [List.length_set])⟩ hS1 hl)
  have hset := ks_w_set (G := G) (base := base) (M := M) (M' := M) (L := L) (L' := L) (e' := (0, ci, ds.set f (3, j))) (v := .inr (ci, (ds.mapIdx (ks_v base (M i) (L i))).set f (.ref (base + j)))) hs (congrArg (fun z => (Sum.inr (ci, z) : va_E)) (ks_mapIdx_set (base := base) (t' := (3, j)) (v := .ref (base + j)) ht rfl (fun _ _ _ _ => rfl))) (fun _ _ => rfl) (fun _ _ => rfl)
  rw [← hset]
  exact hP1
theorem kin {j n : Nat} (h : j < n) (hn : n < 2 ^ 31) : vp_in (nI j) n := vp_in_nI h hn
theorem r_alen (X : KX K G base nL own cc d) {i a n : Nat} {ds : List (Nat × Nat)} (hs : sh[i]? = some (a + 1, n, ds)) (hd : decode cc pc = .ok (.arraylength, 1)) (hq : pc + 1 = q) (k : RN K G base nL cells slots sh M L q pl (.int (nI n) :: st)) : RN K G base nL cells slots sh M L pc pl (.ref (base + i) :: st) := by
  subst hq
  intro H locs ls hR hS hl
  have he := ks_w_get (G := G) (base := base) (M := M) (L := L) hs
  match a, he with
  | 0, he => exact va_alen X.1 X.2.1 X.2.2.2.2.2.1.1 hR.1 i 0 he (tys := ks_T G) rfl rfl hd (k H locs ls hR hS hl)
  | 1, he => exact va_alen X.1 X.2.1 X.2.2.2.2.2.1.1 hR.1 i 1 he (tys := ks_T G) rfl rfl hd (k H locs ls hR hS hl)
  | n + 2, he => exact va_alen X.1 X.2.1 X.2.2.2.2.2.1.1 hR.1 i 2 he (tys := ks_T G) rfl rfl hd (k H locs ls hR hS hl)
theorem r_iald (X : KX K G base nL own cc d) {i n j v : Nat} {ds : List (Nat × Nat)} (hs : sh[i]? = some (1, n, ds)) (hj : j < n) (hn : n < 2 ^ 31) (hv : M i j = v) (hd : decode cc pc = .ok (.iaload, 1)) (hq : pc + 1 = q) (k : RN K G base nL cells slots sh M L q pl (.int (nI v) :: st)) : RN K G base nL cells slots sh M L pc pl (.int (nI j) :: .ref (base + i) :: st) := by
  subst hq
  subst hv
  intro H locs ls hR hS hl
  have he : (ks_w G base sh M L)[i]? = some (base + i, .inl (G.2.1, n, .inl (fun j => nI (M i j)))) := ks_w_get hs
  refine va_iald X.1 X.2.1 X.2.2.2.2.2.1.1 hR.1 i 0 he (tys := ks_T G) rfl (kin hj hn) hd ?_
  rw [nI_clamp (Nat.lt_trans hj hn)]
  exact k H locs ls hR hS hl
theorem r_bald (X : KX K G base nL own cc d) {i n j v : Nat} {ds : List (Nat × Nat)} (hs : sh[i]? = some (2, n, ds)) (hj : j < n) (hn : n < 2 ^ 31) (hv : M i j = v) (hd : decode cc pc = .ok (.baload, 1)) (hq : pc + 1 = q) (k : RN K G base nL cells slots sh M L q pl (.int (nI v) :: st)) : RN K G base nL cells slots sh M L pc pl (.int (nI j) :: .ref (base + i) :: st) := by
  subst hq
  subst hv
  intro H locs ls hR hS hl
  have he : (ks_w G base sh M L)[i]? = some (base + i, .inl (G.2.2.1, n, .inl (fun j => nI (M i j)))) := ks_w_get hs
  refine va_zald X.1 X.2.1 X.2.2.2.2.2.1.1 hR.1 i 1 he (tys := ks_T G) rfl (kin hj hn) hd ?_
  rw [nI_clamp (Nat.lt_trans hj hn)]
  exact k H locs ls hR hS hl
theorem r_aald (X : KX K G base nL own cc d) {i n j t : Nat} {ds : List (Nat × Nat)} (hs : sh[i]? = some (3, n, ds)) (hj : j < n) (hn : n < 2 ^ 31) (hv : ds[j]? = some (3, t)) (hd : decode cc pc = .ok (.aaload, 1)) (hq : pc + 1 = q) (k : RN K G base nL cells slots sh M L q pl (.ref (base + t) :: st)) : RN K G base nL cells slots sh M L pc pl (.int (nI j) :: .ref (base + i) :: st) := by
  subst hq
  intro H locs ls hR hS hl
  have he : (ks_w G base sh M L)[i]? = some (base + i, .inl (G.2.2.2, n, .inr (.inr (.inr (.inr (ks_r base ds)))))) := ks_w_get hs
  refine va_aldq X.1 X.2.1 X.2.2.2.2.2.1.1 hR.1 i 2 he (tys := ks_T G) rfl (kin hj hn) hd ?_
  rw [nI_clamp (Nat.lt_trans hj hn), show ks_r base ds j = some (base + t) by simp [ks_r, hv]]
  exact k H locs ls hR hS hl
theorem ks_upd (f : Nat → Nat) (j v : Nat) : upd (fun j => nI (f j)) j (nI v) = fun b => nI (if b = j then v else f b) := by
  funext b
  unfold upd
  split <;> rfl
theorem r_iast (X : KX K G base nL own cc d) {i n j v : Nat} {ds : List (Nat × Nat)} (hs : sh[i]? = some (1, n, ds)) (hj : j < n) (hn : n < 2 ^ 31) (hd : decode cc pc = .ok (.iastore, 1)) (hq : pc + 1 = q) (k : RN K G base nL cells slots sh (up2 M i j v) L q pl st) : RN K G base nL cells slots sh M L pc pl (.int (nI v) :: .int (nI j) :: .ref (base + i) :: st) := by
  subst hq
  intro H locs ls hR hS hl
  have he : (ks_w G base sh M L)[i]? = some (base + i, .inl (G.2.1, n, .inl (fun j => nI (M i j)))) := ks_w_get hs
  refine W.iast X.1 X.2.1 (hR.1 i _ he) ((X.2.2.2.2.2.1.1.2 0 _ (show (ks_T G)[0]? = some (G.2.1, .int) from rfl)).1 n (fun j => .int (nI (M i j)))) (fun q => by cases q) (by show ¬ (nI j < 0 ∨ (arrV _ _ _).slots.size ≤ _); rw [arrV_size]; exact kin hj hn) rfl rfl hd fun H1 e z oq => k H1 _ ls ⟨?_, z.trans hR.2⟩ (hS.put z oq (Nat.le_add_right _ _)) hl
  have hset := ks_w_set (G := G) (base := base) (M := M) (M' := up2 M i j v) (L := L) (L' := L) (e' := (1, n, ds)) (v := .inl (G.2.1, n, .inl (upd (fun j => nI (M i j)) j (nI v)))) hs (by
    rw [ks_upd]
    show (Sum.inl (G.2.1, n, Sum.inl (fun b => nI (up2 M i j v i b))) : va_E) = _
    simp [up2]) (fun j hj => by funext b; exact up2_o hj) (fun _ _ => rfl)
  rw [ks_set_self hs] at hset
  rw [← hset]
  refine hR.1.set ks_D he ?_ oq
  show H1[base + i]? = some (vp_cell _ _)
  rw [e, vp_cell_i, vp_cell_i, arrV_store, nI_clamp (Nat.lt_trans hj hn)]
  congr 2
  funext b
  by_cases hb : b = j <;> simp [updV, upd, hb]
theorem r_bast (X : KX K G base nL own cc d) {i n j v : Nat} {ds : List (Nat × Nat)} (hs : sh[i]? = some (2, n, ds)) (hj : j < n) (hn : n < 2 ^ 31) (hv : vp_nar .boolean (nI v) = nI v) (hd : decode cc pc = .ok (.bastore, 1)) (hq : pc + 1 = q) (k : RN K G base nL cells slots sh (up2 M i j v) L q pl st) : RN K G base nL cells slots sh M L pc pl (.int (nI v) :: .int (nI j) :: .ref (base + i) :: st) := by
  subst hq
  intro H locs ls hR hS hl
  have he : (ks_w G base sh M L)[i]? = some (base + i, .inl (G.2.2.1, n, .inl (fun j => nI (M i j)))) := ks_w_get hs
  refine W.zast X.1 X.2.1 (hR.1 i _ he) ((X.2.2.2.2.2.1.1.2 1 _ (show (ks_T G)[1]? = some (G.2.2.1, .boolean) from rfl)).1 n (fun j => .int (nI (M i j)))) (fun q => by cases q) (by show ¬ (nI j < 0 ∨ (arrV _ _ _).slots.size ≤ _); rw [arrV_size]; exact kin hj hn) rfl rfl hd fun H1 e z oq => k H1 _ ls ⟨?_, z.trans hR.2⟩ (hS.put z oq (Nat.le_add_right _ _)) hl
  have hset := ks_w_set (G := G) (base := base) (M := M) (M' := up2 M i j v) (L := L) (L' := L) (e' := (2, n, ds)) (v := .inl (G.2.2.1, n, .inl (upd (fun j => nI (M i j)) j (nI v)))) hs (by
    rw [ks_upd]
    show (Sum.inl (G.2.2.1, n, Sum.inl (fun b => nI (up2 M i j v i b))) : va_E) = _
    simp [up2]) (fun j hj => by funext b; exact up2_o hj) (fun _ _ => rfl)
  rw [ks_set_self hs] at hset
  rw [← hset]
  refine hR.1.set ks_D he ?_ oq
  show H1[base + i]? = some (vp_cell _ _)
  have hnar : narrow .boolean (.int (nI v)) = .int (nI v) := by
    have h1 : ∀ x : Int32, narrow .boolean (.int x) = .int (vp_nar .boolean x) := fun x => by unfold vp_nar; rfl
    rw [h1, hv]
  rw [e, vp_cell_i, vp_cell_i, arrV_store, nI_clamp (Nat.lt_trans hj hn)]
  congr 2
  funext b
  by_cases hb : b = j <;> simp [updV, upd, hb, hnar]
end ROWS
end
section
/-! ENDS, ENTRIES, CALLS, NEW OBJECTS -/
def kB (K : ks_Cx) : List Frame := K.2.2.2.2.2.2.2.1
def kQ (K : ks_Cx) : State → Prop := K.2.2.2.2.2.2.2.2.2.2
def KQi (K : ks_Cx) (G : ks_G) (base : Nat) (sh : List ks_S) (mc ms : Nat) (rt : FieldType) (post : Int32 → ks_M → ks_L → Prop) : Prop := kQ K = MQ (kB K) (ks_Qi G base sh post) (kA K) (kS K) mc ms (ks_A base) ∧ (kMe K).sig.returnType = some rt ∧ (kMe K).locks = false
def KQl (K : ks_Cx) (G : ks_G) (base : Nat) (sh : List ks_S) (mc ms : Nat) (post : Int64 → ks_M → ks_L → Prop) : Prop := kQ K = MQ (kB K) (ks_Ql G base sh post) (kA K) (kS K) mc ms (ks_A base) ∧ (kMe K).sig.returnType = some .long ∧ (kMe K).locks = false
def KQv (K : ks_Cx) (G : ks_G) (base : Nat) (sh : List ks_S) (mc ms : Nat) (nm : String) (post : ks_M → ks_L → Prop) : Prop := kQ K = MQ (kB K) (ks_Qv G base sh post) (kA K) (kS K) mc ms (ks_A base) ∧ (kMe K).sig.returnType = none ∧ (kMe K).locks = false ∧ (kMe K).name = nm
def KQr (K : ks_Cx) (G : ks_G) (base : Nat) (sh : List ks_S) (j mc ms : Nat) (rt : FieldType) (post : ks_M → ks_L → Prop) : Prop := kQ K = MQ (kB K) (ks_Qr G base sh j post) (kA K) (kS K) mc ms (ks_A base) ∧ (kMe K).sig.returnType = some rt ∧ (kMe K).locks = false
section ROWS
variable {K : ks_Cx} {G : ks_G} {base nL : Nat} {own : String} {cc : ByteArray} {d cells slots mc ms : Nat} {sh sh2 : List ks_S} {M : ks_M} {L : ks_L} {pc q : Nat} {pl : List (Nat × Value)} {st st2 : List Value} {l : Launch} {y : MethodName} {rt : FieldType} {as : List Value}
theorem r_iret (X : KX K G base nL own cc d) {post : Int32 → ks_M → ks_L → Prop} {v : Int32} (Y : KQi K G base sh mc ms .int post) (hp : post v M L) (hd : decode cc pc = .ok (.ireturn, 1)) : RN K G base nL mc ms sh M L pc pl [.int v] := by
  intro H locs ls hR hS hl
  unfold KW
  rw [show K.2.2.2.2.2.2.2.2.2.2 = _ from Y.1]
  exact W.iret (v := v) X.1 X.2.1 Y.2.1 (fun t ht hW => ⟨⟨v, (M, L), rfl, hp, by subst ht; exact hR⟩, hS.F ht⟩) hS.2.2 hd Y.2.2
theorem r_zret (X : KX K G base nL own cc d) {post : Int32 → ks_M → ks_L → Prop} {v : Int32} (Y : KQi K G base sh mc ms .boolean post) (hn : narrow .boolean (.int v) = .int v) (hp : post v M L) (hd : decode cc pc = .ok (.ireturn, 1)) : RN K G base nL mc ms sh M L pc pl [.int v] := by
  intro H locs ls hR hS hl
  unfold KW
  rw [show K.2.2.2.2.2.2.2.2.2.2 = _ from Y.1]
  exact W.zret (v := v) (ty := .boolean) X.1 X.2.1 Y.2.1 hn (fun t ht hW => ⟨⟨v, (M, L), rfl, hp, by subst ht; exact hR⟩, hS.F ht⟩) hS.2.2 hd Y.2.2
theorem r_lret (X : KX K G base nL own cc d) {post : Int64 → ks_M → ks_L → Prop} {v : Int64} (Y : KQl K G base sh mc ms post) (hp : post v M L) (hd : decode cc pc = .ok (.lreturn, 1)) : RN K G base nL mc ms sh M L pc pl [.long v] := by
  intro H locs ls hR hS hl
  unfold KW
  rw [show K.2.2.2.2.2.2.2.2.2.2 = _ from Y.1]
  exact W.lret (v := v) X.1 X.2.1 Y.2.1 (fun t ht hW => ⟨⟨v, (M, L), rfl, hp, by subst ht; exact hR⟩, hS.F ht⟩) hS.2.2 hd Y.2.2
theorem r_vret (X : KX K G base nL own cc d) {nm : String} {post : ks_M → ks_L → Prop} (Y : KQv K G base sh mc ms nm post) (hp : post M L) (hd : decode cc pc = .ok (.return_, 1)) : RN K G base nL mc ms sh M L pc pl [] := by
  intro H locs ls hR hS hl
  unfold KW
  rw [show K.2.2.2.2.2.2.2.2.2.2 = _ from Y.1]
  exact W.vret X.1 X.2.1 Y.2.1 (fun t ht hW => ⟨⟨(M, L), rfl, hp, by subst ht; exact hR⟩, hS.F ht⟩) hS.2.2 hd Y.2.2.1
theorem r_aret (X : KX K G base nL own cc d) {j : Nat} {post : ks_M → ks_L → Prop} (Y : KQr K G base sh j mc ms rt post) (hrt : (∃ n, rt = .object n) ∨ ∃ t, rt = .array t) (hp : post M L) (hd : decode cc pc = .ok (.areturn, 1)) : RN K G base nL mc ms sh M L pc pl [.ref (base + j)] := by
  intro H locs ls hR hS hl
  unfold KW
  rw [show K.2.2.2.2.2.2.2.2.2.2 = _ from Y.1]
  exact W.aret (v := .ref (base + j)) X.1 X.2.1 Y.2.1 hrt (Or.inr ⟨_, rfl⟩) (fun t ht hW => ⟨⟨(M, L), base + j, rfl, hp, rfl, by subst ht; exact hR⟩, hS.F ht⟩) hS.2.2 hd Y.2.2
theorem r_widen {c2 s2 : Nat} (h1 : cells ≤ c2) (h2 : slots ≤ s2) (k : RN K G base nL c2 s2 sh M L pc pl st) : RN K G base nL cells slots sh M L pc pl st := fun H locs ls hR hS hl => W.widen h1 h2 (k H locs ls hR hS hl)
-- entries
theorem k_meti {nL2 : Nat} {cc2 : ByteArray} {post : Int32 → ks_M → ks_L → Prop} (hy : plainName y.cls = true) (hlen : (lg_sl as).length ≤ nL2) (body : ∀ K : ks_Cx, K.2.1 = l → KX K G base nL2 y.cls cc2 d → KQi K G base sh 0 0 rt post → RN K G base nL2 0 0 sh M L 0 (lv_args 0 as) []) : KI l G base d y cc2 nL2 rt as sh M L post := by
  refine Met.ofW (cc := cc2) (maxL := nL2) (ret := some rt) hy rfl ?_
  intro p e s m args below meth c s₁ B hml hv
  obtain ⟨rfl, hR, hK⟩ := hv
  have hts := atoms_spec (ws := .code y cc2 nL2 (some rt) :: ks_all) B.pre
  have h1 := body (p, l, e, ks_rm d 0 0, s, m, as.toArray, below, meth, c, MQ below (ks_Qi G base sh post) as.toArray s 0 0 (ks_A base)) rfl ⟨B.exec, B.bytes, hml, findClass_of_methodNamed B.named, fun w hw => hts w (List.mem_cons_of_mem _ hw), hK, by show base ≤ s.heap.size; rw [hR.2]; exact Nat.le_add_right _ _, Nat.le_refl d, Nat.le_refl (48 * d)⟩ ⟨rfl, B.returns, B.notSynchronized⟩
  rw [lg_entry_eq]
  exact h1 s.heap [] _ hR va_S.rf (lv_entry as hlen)
theorem k_metl {nL2 : Nat} {cc2 : ByteArray} {post : Int64 → ks_M → ks_L → Prop} (hy : plainName y.cls = true) (hlen : (lg_sl as).length ≤ nL2) (body : ∀ K : ks_Cx, K.2.1 = l → KX K G base nL2 y.cls cc2 d → KQl K G base sh 0 0 post → RN K G base nL2 0 0 sh M L 0 (lv_args 0 as) []) : KL l G base d y cc2 nL2 as sh M L post := by
  refine Met.ofW (cc := cc2) (maxL := nL2) (ret := some .long) hy rfl ?_
  intro p e s m args below meth c s₁ B hml hv
  obtain ⟨rfl, hR, hK⟩ := hv
  have hts := atoms_spec (ws := .code y cc2 nL2 (some .long) :: ks_all) B.pre
  have h1 := body (p, l, e, ks_rm d 0 0, s, m, as.toArray, below, meth, c, MQ below (ks_Ql G base sh post) as.toArray s 0 0 (ks_A base)) rfl ⟨B.exec, B.bytes, hml, findClass_of_methodNamed B.named, fun w hw => hts w (List.mem_cons_of_mem _ hw), hK, by show base ≤ s.heap.size; rw [hR.2]; exact Nat.le_add_right _ _, Nat.le_refl d, Nat.le_refl (48 * d)⟩ ⟨rfl, B.returns, B.notSynchronized⟩
  rw [lg_entry_eq]
  exact h1 s.heap [] _ hR va_S.rf (lv_entry as hlen)
theorem k_metv {nL2 : Nat} {cc2 : ByteArray} {post : ks_M → ks_L → Prop} (hy : plainName y.cls = true) (hlen : (lg_sl as).length ≤ nL2) (body : ∀ K : ks_Cx, K.2.1 = l → kR K = ks_rm d mc ms → KX K G base nL2 y.cls cc2 d → KQv K G base sh2 mc ms y.name post → RN K G base nL2 0 0 sh M L 0 (lv_args 0 as) []) : KV l G base d mc ms y cc2 nL2 as sh sh2 M L post := by
  refine Met.ofW (cc := cc2) (maxL := nL2) (ret := none) hy rfl ?_
  intro p e s m args below meth c s₁ B hml hv
  obtain ⟨rfl, hR, hK⟩ := hv
  have hts := atoms_spec (ws := .code y cc2 nL2 none :: ks_all) B.pre
  have h1 := body (p, l, e, ks_rm d mc ms, s, m, as.toArray, below, meth, c, MQ below (ks_Qv G base sh2 post) as.toArray s mc ms (ks_A base)) rfl rfl ⟨B.exec, B.bytes, hml, findClass_of_methodNamed B.named, fun w hw => hts w (List.mem_cons_of_mem _ hw), hK, by show base ≤ s.heap.size; rw [hR.2]; exact Nat.le_add_right _ _, Nat.le_refl d, Nat.le_refl (48 * d)⟩ ⟨rfl, B.returns, B.notSynchronized, (name_of_methodNamed B.named B.method).1⟩
  rw [lg_entry_eq]
  exact h1 s.heap [] _ hR va_S.rf (lv_entry as hlen)
theorem k_metr {nL2 j : Nat} {cc2 : ByteArray} {post : ks_M → ks_L → Prop} (hy : plainName y.cls = true) (hlen : (lg_sl as).length ≤ nL2) (body : ∀ K : ks_Cx, K.2.1 = l → kR K = ks_rm d mc ms → KX K G base nL2 y.cls cc2 d → KQr K G base sh2 j mc ms rt post → RN K G base nL2 0 0 sh M L 0 (lv_args 0 as) []) : KR l G base d mc ms y cc2 nL2 rt as sh sh2 j M L post := by
  refine Met.ofW (cc := cc2) (maxL := nL2) (ret := some rt) hy rfl ?_
  intro p e s m args below meth c s₁ B hml hv
  obtain ⟨rfl, hR, hK⟩ := hv
  have hts := atoms_spec (ws := .code y cc2 nL2 (some rt) :: ks_all) B.pre
  have h1 := body (p, l, e, ks_rm d mc ms, s, m, as.toArray, below, meth, c, MQ below (ks_Qr G base sh2 j post) as.toArray s mc ms (ks_A base)) rfl rfl ⟨B.exec, B.bytes, hml, findClass_of_methodNamed B.named, fun w hw => hts w (List.mem_cons_of_mem _ hw), hK, by show base ≤ s.heap.size; rw [hR.2]; exact Nat.le_add_right _ _, Nat.le_refl d, Nat.le_refl (48 * d)⟩ ⟨rfl, B.returns, B.notSynchronized⟩
  rw [lg_entry_eq]
  exact h1 s.heap [] _ hR va_S.rf (lv_entry as hlen)
-- calls
def ks_dc (y : MethodName) (n : Nat) : Prop := y.cls ≠ "java/lang/invoke/MethodHandle" ∧ y.cls ≠ "java/lang/invoke/VarHandle" ∧ (parseMethodDescriptor y.desc).map (fun d => d.parameters.length) = some n
def ks_sV (own : String) (idx : Nat) (y : MethodName) (cc : ByteArray) (nL : Nat) (ret : Option FieldType) (n : Nat) : Prop := (Cond.methodLink own idx y ∈ ks_all ∧ Cond.instanceMethod y ∈ ks_all ∧ Cond.selects y.cls y y ∈ ks_all ∧ Cond.initialized y.cls ∈ ks_all ∧ Cond.code y cc nL ret ∈ ks_all) ∧ ks_dc y n
def ks_sS (own : String) (idx : Nat) (y : MethodName) (cc : ByteArray) (nL : Nat) (ret : Option FieldType) (n : Nat) : Prop := (Cond.methodLink own idx y ∈ ks_all ∧ Cond.static y ∈ ks_all ∧ Cond.initialized y.cls ∈ ks_all ∧ Cond.code y cc nL ret ∈ ks_all) ∧ ks_dc y n
def ks_sI (own : String) (idx : Nat) (y : MethodName) (cc : ByteArray) (nL : Nat) (n : Nat) : Prop := (Cond.methodLink own idx y ∈ ks_all ∧ Cond.instanceMethod y ∈ ks_all ∧ Cond.initialized y.cls ∈ ks_all ∧ Cond.code y cc nL none ∈ ks_all) ∧ ks_dc y n ∧ y.name = "<init>"
def ks_sIN (own : String) (idx : Nat) (y : MethodName) (host : String) (cc : ByteArray) (nL : Nat) (n : Nat) : Prop := ((own, idx, y, host) ∈ ks_N ∧ Cond.instanceMethod y ∈ ks_all ∧ Cond.initialized y.cls ∈ ks_all ∧ Cond.code y cc nL none ∈ ks_all) ∧ ks_dc y n ∧ y.name = "<init>"
def ks_sSN (own : String) (idx : Nat) (y : MethodName) (host : String) (cc : ByteArray) (nL : Nat) (ret : Option FieldType) (n : Nat) : Prop := ((own, idx, y, host) ∈ ks_N ∧ Cond.static y ∈ ks_all ∧ Cond.initialized y.cls ∈ ks_all ∧ Cond.code y cc nL ret ∈ ks_all) ∧ ks_dc y n
theorem ks_gin {y : MethodName} {cc : ByteArray} {nL : Nat} {ret : Option FieldType} (h : Cond.code y cc nL ret ∈ ks_all) : GoodIn ks_all (.code y cc nL ret :: ks_all) := fun w hw => (List.mem_cons.mp hw).elim (fun e => e ▸ ks_good _ h) (fun hw => ks_good w hw)
theorem ks_blind {M : ks_M} {L : ks_L} : FrameBlind (ks_Pc G base as sh M L) := fun a U g mk h => ⟨h.1, h.2.1, ks_K.same rfl h.2.2⟩
theorem ks_fit {nL2 d2 : Nat} (X : KX K G base nL own cc d) (h1 : d2 < d) (h2 : nL2 ≤ 29) {mc ms : Nat} : (ks_rm d2 mc ms).frames + 1 ≤ (kR K).frames ∧ 8 + (nL2 + 11) + (ks_rm d2 mc ms).locals ≤ (kR K).locals := by
  have h3 := X.2.2.2.2.2.2.2.1
  have h4 := X.2.2.2.2.2.2.2.2
  show d2 + 1 ≤ _ ∧ 8 + (nL2 + 11) + 48 * d2 ≤ _
  omega
theorem ks_fix (X : KX K G base nL own cc d) : CallFix K.1 (kM K) (kC K) cc nL (kS K) (kA K) ks_all own := ⟨X.1, X.2.1, X.2.2.1, X.2.2.2.1, X.2.2.2.2.1⟩
theorem ks_cB (X : KX K G base nL own cc d) {idx n nL2 d2 mc ms : Nat} {cc2 : ByteArray} {ret : Option FieldType} (hl : Cond.methodLink own idx y ∈ ks_all) (hi : Cond.initialized y.cls ∈ ks_all) (hc : Cond.code y cc2 nL2 ret ∈ ks_all) (hdc : ks_dc y n) (h1 : d2 < d) (h2 : nL2 ≤ 29) :
    CallB (kR K) (kS K) (kA K) own idx y cc2 nL2 ret (.code y cc2 nL2 ret :: ks_all) (ks_rm d2 mc ms) mc ms n :=
  callB_of n X.2.2.2.2.1 (ks_gin hc) rfl rfl rfl (X.2.2.2.2.1 _ hi) (X.2.2.2.2.1 _ hl) hdc (ks_fit X h1 h2)
theorem ks_cN (X : KX K G base nL own cc d) {idx n nL2 d2 mc ms : Nat} {host : String} {cc2 : ByteArray} {ret : Option FieldType} (hl : (own, idx, y, host) ∈ ks_N) (hi : Cond.initialized y.cls ∈ ks_all) (hc : Cond.code y cc2 nL2 ret ∈ ks_all) (hdc : ks_dc y n) (h1 : d2 < d) (h2 : nL2 ≤ 29) :
    va_CN (kR K) (kS K) (kA K) own idx y host cc2 nL2 ret (.code y cc2 nL2 ret :: ks_all) (ks_rm d2 mc ms) mc ms n :=
  va_cnB n X.2.2.2.2.1 (ks_gin hc) rfl rfl rfl (X.2.2.2.2.2.1.2.2 _ hl) (X.2.2.2.2.1 _ hi) hdc (ks_fit X h1 h2)
theorem ks_preV (X : KX K G base nL own cc d) {H : Heap} (hR : ks_R G base sh M L H) {i ci N : Nat} {T : u_T} {ds : List (Nat × Nat)} {C : String} {as2 : List Value} (hs : sh[i]? = some (0, ci, ds)) (hc : ks_cl[ci]? = some (C, T, N)) : PreV (kS K) H C (base + i) (ks_Pc G base (.ref (base + i) :: as2) sh M L) as2 :=
  ⟨ks_blind, va_recv X.2.2.2.2.2.1.1 hR.1 hc (q0 := i) (ks_w_get hs), fun U hU hW => ⟨rfl, by rw [hU]; exact hR, X.2.2.2.2.2.1.warm hW⟩⟩
theorem ks_preS (X : KX K G base nL own cc d) {H : Heap} (hR : ks_R G base sh M L H) {as2 : List Value} : PreS (kS K) H (ks_Pc G base as2 sh M L) as2 :=
  ⟨ks_blind, fun U hU hW => ⟨rfl, by rw [hU]; exact hR, X.2.2.2.2.2.1.warm hW⟩⟩
theorem r_callVi (X : KX K G base nL own cc d) {idx d2 nL2 i ci N : Nat} {cc2 : ByteArray} {as2 : List Value} {T : u_T} {ds : List (Nat × Nat)} {post : Int32 → ks_M → ks_L → Prop} (hM : KI K.2.1 G base d2 y cc2 nL2 rt (.ref (base + i) :: as2) sh M L post) (hs : sh[i]? = some (0, ci, ds)) (hc : ks_cl[ci]? = some (y.cls, T, N)) (hw : ks_sV own idx y cc2 nL2 (some rt) as2.length) (h1 : d2 < d) (h2 : nL2 ≤ 29) (hcs : cells ≤ (kR K).cells ∧ slots ≤ (kR K).slots) (hst : st2 = as2.reverse ++ .ref (base + i) :: st) (hr : (st.map fun v => v.category).sum ≤ 8) (hd : decode cc pc = .ok (.invokevirtual idx, 3)) (hq : pc + 3 = q) (k : ∀ (r : Int32) (M1 : ks_M) (L1 : ks_L), post r M1 L1 → RN K G base nL cells slots sh M1 L1 q pl (.int r :: st)) : RN K G base nL cells slots sh M L pc pl st2 := by
  subst hq
  subst hst
  intro H locs ls hR hS hl
  exact va_calli (va_runV (As := as2) (rest := st) (ks_fix X) hM ⟨ks_cB X hw.1.1 hw.1.2.2.2.1 hw.1.2.2.2.2 hw.2 h1 h2, X.2.2.2.2.1 _ hw.1.2.1, X.2.2.2.2.1 _ hw.1.2.2.1⟩ (ks_preV X hR hs hc) rfl rfl hl.1 rfl (lv_room hr) hd ⟨hcs.1, hcs.2⟩) hS (fun q _ h => h) (fun q h => h) (fun r u t H1 locs1 ht hvm hp hB hz hk hS1 => k r u.1 u.2 hp H1 locs1 ls (by rw [← ht]; exact hB) hS1 hl)
theorem r_callVl (X : KX K G base nL own cc d) {idx d2 nL2 i ci N : Nat} {cc2 : ByteArray} {as2 : List Value} {T : u_T} {ds : List (Nat × Nat)} {post : Int64 → ks_M → ks_L → Prop} (hM : KL K.2.1 G base d2 y cc2 nL2 (.ref (base + i) :: as2) sh M L post) (hs : sh[i]? = some (0, ci, ds)) (hc : ks_cl[ci]? = some (y.cls, T, N)) (hw : ks_sV own idx y cc2 nL2 (some .long) as2.length) (h1 : d2 < d) (h2 : nL2 ≤ 29) (hcs : cells ≤ (kR K).cells ∧ slots ≤ (kR K).slots) (hst : st2 = as2.reverse ++ .ref (base + i) :: st) (hr : (st.map fun v => v.category).sum ≤ 8) (hd : decode cc pc = .ok (.invokevirtual idx, 3)) (hq : pc + 3 = q) (k : ∀ (r : Int64) (M1 : ks_M) (L1 : ks_L), post r M1 L1 → RN K G base nL cells slots sh M1 L1 q pl (.long r :: st)) : RN K G base nL cells slots sh M L pc pl st2 := by
  subst hq
  subst hst
  intro H locs ls hR hS hl
  exact va_calll (va_runV (As := as2) (rest := st) (ks_fix X) hM ⟨ks_cB X hw.1.1 hw.1.2.2.2.1 hw.1.2.2.2.2 hw.2 h1 h2, X.2.2.2.2.1 _ hw.1.2.1, X.2.2.2.2.1 _ hw.1.2.2.1⟩ (ks_preV X hR hs hc) rfl rfl hl.1 rfl (lv_room hr) hd ⟨hcs.1, hcs.2⟩) hS (fun q _ h => h) (fun q h => h) (fun r u t H1 locs1 ht hvm hp hB hz hk hS1 => k r u.1 u.2 hp H1 locs1 ls (by rw [← ht]; exact hB) hS1 hl)
theorem r_callVv (X : KX K G base nL own cc d) {idx d2 nL2 mc2 ms2 i ci N : Nat} {cc2 : ByteArray} {as2 : List Value} {T : u_T} {ds : List (Nat × Nat)} {post : ks_M → ks_L → Prop} (hM : KV K.2.1 G base d2 mc2 ms2 y cc2 nL2 (.ref (base + i) :: as2) sh sh2 M L post) (hs : sh[i]? = some (0, ci, ds)) (hc : ks_cl[ci]? = some (y.cls, T, N)) (hw : ks_sV own idx y cc2 nL2 none as2.length) (h1 : d2 < d) (h2 : nL2 ≤ 29) (hcs : cells + mc2 ≤ (kR K).cells ∧ slots + ms2 ≤ (kR K).slots) (hst : st2 = as2.reverse ++ .ref (base + i) :: st) (hr : (st.map fun v => v.category).sum ≤ 8) (hd : decode cc pc = .ok (.invokevirtual idx, 3)) (hq : pc + 3 = q) (k : ∀ (M1 : ks_M) (L1 : ks_L), post M1 L1 → RN K G base nL (cells + mc2) (slots + ms2) sh2 M1 L1 q pl (st)) : RN K G base nL cells slots sh M L pc pl st2 := by
  subst hq
  subst hst
  intro H locs ls hR hS hl
  exact va_callv (va_runV (As := as2) (rest := st) (ks_fix X) hM ⟨ks_cB X hw.1.1 hw.1.2.2.2.1 hw.1.2.2.2.2 hw.2 h1 h2, X.2.2.2.2.1 _ hw.1.2.1, X.2.2.2.2.1 _ hw.1.2.2.1⟩ (ks_preV X hR hs hc) rfl rfl hl.1 rfl (lv_room hr) hd ⟨hcs.1, hcs.2⟩) hS (fun q _ h => h) (fun q h => h) (fun u t H1 locs1 ht hvm hp hB hz hk hS1 => k u.1 u.2 hp H1 locs1 ls (by rw [← ht]; exact hB) hS1 hl)
theorem r_callSi (X : KX K G base nL own cc d) {idx d2 nL2 : Nat} {cc2 : ByteArray} {as2 : List Value} {post : Int32 → ks_M → ks_L → Prop} (hM : KI K.2.1 G base d2 y cc2 nL2 rt as2 sh M L post) (hw : ks_sS own idx y cc2 nL2 (some rt) as2.length) (h1 : d2 < d) (h2 : nL2 ≤ 29) (hcs : cells ≤ (kR K).cells ∧ slots ≤ (kR K).slots) (hst : st2 = as2.reverse ++ st) (hr : (st.map fun v => v.category).sum ≤ 8) (hd : decode cc pc = .ok (.invokestatic idx, 3)) (hq : pc + 3 = q) (k : ∀ (r : Int32) (M1 : ks_M) (L1 : ks_L), post r M1 L1 → RN K G base nL cells slots sh M1 L1 q pl (.int r :: st)) : RN K G base nL cells slots sh M L pc pl st2 := by
  subst hq
  subst hst
  intro H locs ls hR hS hl
  exact va_calli (va_runS (As := as2) (rest := st) (ks_fix X) hM ⟨ks_cB X hw.1.1 hw.1.2.2.1 hw.1.2.2.2 hw.2 h1 h2, X.2.2.2.2.1 _ hw.1.2.1⟩ (ks_preS X hR) rfl rfl hl.1 rfl (lv_room hr) hd ⟨hcs.1, hcs.2⟩) hS (fun q _ h => h) (fun q h => h) (fun r u t H1 locs1 ht hvm hp hB hz hk hS1 => k r u.1 u.2 hp H1 locs1 ls (by rw [← ht]; exact hB) hS1 hl)
theorem r_callSv (X : KX K G base nL own cc d) {idx d2 nL2 mc2 ms2 : Nat} {cc2 : ByteArray} {as2 : List Value} {post : ks_M → ks_L → Prop} (hM : KV K.2.1 G base d2 mc2 ms2 y cc2 nL2 as2 sh sh2 M L post) (hw : ks_sS own idx y cc2 nL2 none as2.length) (h1 : d2 < d) (h2 : nL2 ≤ 29) (hcs : cells + mc2 ≤ (kR K).cells ∧ slots + ms2 ≤ (kR K).slots) (hst : st2 = as2.reverse ++ st) (hr : (st.map fun v => v.category).sum ≤ 8) (hd : decode cc pc = .ok (.invokestatic idx, 3)) (hq : pc + 3 = q) (k : ∀ (M1 : ks_M) (L1 : ks_L), post M1 L1 → RN K G base nL (cells + mc2) (slots + ms2) sh2 M1 L1 q pl (st)) : RN K G base nL cells slots sh M L pc pl st2 := by
  subst hq
  subst hst
  intro H locs ls hR hS hl
  exact va_callv (va_runS (As := as2) (rest := st) (ks_fix X) hM ⟨ks_cB X hw.1.1 hw.1.2.2.1 hw.1.2.2.2 hw.2 h1 h2, X.2.2.2.2.1 _ hw.1.2.1⟩ (ks_preS X hR) rfl rfl hl.1 rfl (lv_room hr) hd ⟨hcs.1, hcs.2⟩) hS (fun q _ h => h) (fun q h => h) (fun u t H1 locs1 ht hvm hp hB hz hk hS1 => k u.1 u.2 hp H1 locs1 ls (by rw [← ht]; exact hB) hS1 hl)
theorem r_callIv (X : KX K G base nL own cc d) {idx d2 nL2 mc2 ms2 i : Nat} {cc2 : ByteArray} {as2 : List Value} {post : ks_M → ks_L → Prop} (hM : KV K.2.1 G base d2 mc2 ms2 y cc2 nL2 (.ref (base + i) :: as2) sh sh2 M L post) (hw : ks_sI own idx y cc2 nL2 as2.length) (h1 : d2 < d) (h2 : nL2 ≤ 29) (hcs : cells + mc2 ≤ (kR K).cells ∧ slots + ms2 ≤ (kR K).slots) (hst : st2 = as2.reverse ++ .ref (base + i) :: st) (hr : (st.map fun v => v.category).sum ≤ 8) (hd : decode cc pc = .ok (.invokespecial idx, 3)) (hq : pc + 3 = q) (k : ∀ (M1 : ks_M) (L1 : ks_L), post M1 L1 → RN K G base nL (cells + mc2) (slots + ms2) sh2 M1 L1 q pl (st)) : RN K G base nL cells slots sh M L pc pl st2 := by
  subst hq
  subst hst
  intro H locs ls hR hS hl
  exact va_callv (va_runI (As := as2) (rest := st) (ks_fix X) hM ⟨ks_cB X hw.1.1 hw.1.2.2.1 hw.1.2.2.2 hw.2.1 h1 h2, hw.2.2, X.2.2.2.2.1 _ hw.1.2.1⟩ (ks_preS X hR) rfl rfl hl.1 rfl (lv_room hr) hd ⟨hcs.1, hcs.2⟩) hS (fun q _ h => h) (fun q h => h) (fun u t H1 locs1 ht hvm hp hB hz hk hS1 => k u.1 u.2 hp H1 locs1 ls (by rw [← ht]; exact hB) hS1 hl)
theorem r_callINv (X : KX K G base nL own cc d) {idx d2 nL2 mc2 ms2 i : Nat} {host : String} {cc2 : ByteArray} {as2 : List Value} {post : ks_M → ks_L → Prop} (hM : KV K.2.1 G base d2 mc2 ms2 y cc2 nL2 (.ref (base + i) :: as2) sh sh2 M L post) (hw : ks_sIN own idx y host cc2 nL2 as2.length) (h1 : d2 < d) (h2 : nL2 ≤ 29) (hcs : cells + mc2 ≤ (kR K).cells ∧ slots + ms2 ≤ (kR K).slots) (hst : st2 = as2.reverse ++ .ref (base + i) :: st) (hr : (st.map fun v => v.category).sum ≤ 8) (hd : decode cc pc = .ok (.invokespecial idx, 3)) (hq : pc + 3 = q) (k : ∀ (M1 : ks_M) (L1 : ks_L), post M1 L1 → RN K G base nL (cells + mc2) (slots + ms2) sh2 M1 L1 q pl (st)) : RN K G base nL cells slots sh M L pc pl st2 := by
  subst hq
  subst hst
  intro H locs ls hR hS hl
  exact va_callv (va_runIN (As := as2) (rest := st) (ks_fix X) hM ⟨ks_cN X hw.1.1 hw.1.2.2.1 hw.1.2.2.2 hw.2.1 h1 h2, hw.2.2, X.2.2.2.2.1 _ hw.1.2.1⟩ (ks_preS X hR) rfl rfl hl.1 rfl (lv_room hr) hd ⟨hcs.1, hcs.2⟩) hS (fun q _ h => h) (fun q h => h) (fun u t H1 locs1 ht hvm hp hB hz hk hS1 => k u.1 u.2 hp H1 locs1 ls (by rw [← ht]; exact hB) hS1 hl)
theorem r_callSNr (X : KX K G base nL own cc d) {idx d2 nL2 mc2 ms2 j : Nat} {host : String} {cc2 : ByteArray} {as2 : List Value} {post : ks_M → ks_L → Prop} (hM : KR K.2.1 G base d2 mc2 ms2 y cc2 nL2 rt as2 sh sh2 j M L post) (hw : ks_sSN own idx y host cc2 nL2 (some rt) as2.length) (h1 : d2 < d) (h2 : nL2 ≤ 29) (hcs : cells + mc2 ≤ (kR K).cells ∧ slots + ms2 ≤ (kR K).slots) (hst : st2 = as2.reverse ++ st) (hr : (st.map fun v => v.category).sum ≤ 8) (hd : decode cc pc = .ok (.invokestatic idx, 3)) (hq : pc + 3 = q) (k : ∀ (M1 : ks_M) (L1 : ks_L), post M1 L1 → RN K G base nL (cells + mc2) (slots + ms2) sh2 M1 L1 q pl (.ref (base + j) :: st)) : RN K G base nL cells slots sh M L pc pl st2 := by
  subst hq
  subst hst
  intro H locs ls hR hS hl
  exact va_callr (va_runSN (As := as2) (rest := st) (ks_fix X) hM ⟨ks_cN X hw.1.1 hw.1.2.2.1 hw.1.2.2.2 hw.2 h1 h2, X.2.2.2.2.1 _ hw.1.2.1, trivial⟩ (ks_preS X hR) rfl rfl hl.1 rfl (lv_room hr) hd ⟨hcs.1, hcs.2⟩) hS (fun q _ h => h) (fun q h => h) (fun u ra t H1 locs1 ht hvm hp hB hz hk hS1 => by obtain ⟨rfl, hB⟩ := hB; exact k u.1 u.2 hp H1 locs1 ls (by rw [← ht]; exact hB) hS1 hl)
theorem r_callSr (X : KX K G base nL own cc d) {idx d2 nL2 mc2 ms2 j : Nat} {cc2 : ByteArray} {as2 : List Value} {post : ks_M → ks_L → Prop} (hM : KR K.2.1 G base d2 mc2 ms2 y cc2 nL2 rt as2 sh sh2 j M L post) (hw : ks_sS own idx y cc2 nL2 (some rt) as2.length) (h1 : d2 < d) (h2 : nL2 ≤ 29) (hcs : cells + mc2 ≤ (kR K).cells ∧ slots + ms2 ≤ (kR K).slots) (hst : st2 = as2.reverse ++ st) (hr : (st.map fun v => v.category).sum ≤ 8) (hd : decode cc pc = .ok (.invokestatic idx, 3)) (hq : pc + 3 = q) (k : ∀ (M1 : ks_M) (L1 : ks_L), post M1 L1 → RN K G base nL (cells + mc2) (slots + ms2) sh2 M1 L1 q pl (.ref (base + j) :: st)) : RN K G base nL cells slots sh M L pc pl st2 := by
  subst hq
  subst hst
  intro H locs ls hR hS hl
  exact va_callr (va_runS (As := as2) (rest := st) (ks_fix X) hM ⟨ks_cB X hw.1.1 hw.1.2.2.1 hw.1.2.2.2 hw.2 h1 h2, X.2.2.2.2.1 _ hw.1.2.1⟩ (ks_preS X hR) rfl rfl hl.1 rfl (lv_room hr) hd ⟨hcs.1, hcs.2⟩) hS (fun q _ h => h) (fun q h => h) (fun u ra t H1 locs1 ht hvm hp hB hz hk hS1 => by obtain ⟨rfl, hB⟩ := hB; exact k u.1 u.2 hp H1 locs1 ls (by rw [← ht]; exact hB) hS1 hl)
theorem r_max (X : KX K G base nL own cc d) {idx : Nat} {x y v : Int32} (hv : (if x < y then y else x) = v) (hw : Cond.methodLink own idx Lib.Math.max.name ∈ ks_all) (hcs : cells ≤ (kR K).cells ∧ slots ≤ (kR K).slots) (h1 : 0 < d) (hr : (st.map fun v => v.category).sum ≤ 8) (hd : decode cc pc = .ok (.invokestatic idx, 3)) (hq : pc + 3 = q) (k : RN K G base nL cells slots sh M L q pl (.int v :: st)) : RN K G base nL cells slots sh M L pc pl (.int y :: .int x :: st) := by
  subst hq
  subst hv
  intro H locs ls hR hS hl
  have h3 := X.2.2.2.2.2.2.2.1
  have h4 := X.2.2.2.2.2.2.2.2
  exact va_mmax X.1 X.2.1 (X.2.2.1.trans hl.1.symm) X.2.2.2.1 (X.2.2.2.2.1 _ hw) (X.2.2.2.2.1 (.static Lib.Math.max.name) (by decide +kernel)) (X.2.2.2.2.1 (.initialized "java/lang/Math") (by decide +kernel)) (X.2.2.2.2.1 (.code Lib.Math.max.name Lib.Math.max.code 2 (some .int)) (by decide +kernel)) (show 1 ≤ (kR K).frames by omega) (show _ + 13 ≤ (kR K).locals by omega) hcs.1 hcs.2 hd (k H locs ls hR hS hl)
theorem r_min (X : KX K G base nL own cc d) {idx : Nat} {x y v : Int32} (hv : (if y < x then y else x) = v) (hw : Cond.methodLink own idx Lib.Math.min.name ∈ ks_all) (hcs : cells ≤ (kR K).cells ∧ slots ≤ (kR K).slots) (h1 : 0 < d) (hr : (st.map fun v => v.category).sum ≤ 8) (hd : decode cc pc = .ok (.invokestatic idx, 3)) (hq : pc + 3 = q) (k : RN K G base nL cells slots sh M L q pl (.int v :: st)) : RN K G base nL cells slots sh M L pc pl (.int y :: .int x :: st) := by
  subst hq
  subst hv
  intro H locs ls hR hS hl
  have h3 := X.2.2.2.2.2.2.2.1
  have h4 := X.2.2.2.2.2.2.2.2
  exact va_mmin X.1 X.2.1 (X.2.2.1.trans hl.1.symm) X.2.2.2.1 (X.2.2.2.2.1 _ hw) (X.2.2.2.2.1 (.static Lib.Math.min.name) (by decide +kernel)) (X.2.2.2.2.1 (.initialized "java/lang/Math") (by decide +kernel)) (X.2.2.2.2.1 (.code Lib.Math.min.name Lib.Math.min.code 2 (some .int)) (by decide +kernel)) (show 1 ≤ (kR K).frames by omega) (show _ + 13 ≤ (kR K).locals by omega) hcs.1 hcs.2 hd (k H locs ls hR hS hl)
end ROWS
end
section
/-! NUMBERS, SHAPES, LINKS -/
theorem fa_and (a b : Nat) : nI a &&& nI b = nI (a &&& b) := by
  apply Int32.toBitVec_inj.1
  show BitVec.ofNat 32 a &&& BitVec.ofNat 32 b = BitVec.ofNat 32 (a &&& b)
  apply BitVec.eq_of_getLsbD_eq
  intro i hi
  simp [hi]
theorem fa_or (a b : Nat) : nI a ||| nI b = nI (a ||| b) := by
  apply Int32.toBitVec_inj.1
  show BitVec.ofNat 32 a ||| BitVec.ofNat 32 b = BitVec.ofNat 32 (a ||| b)
  apply BitVec.eq_of_getLsbD_eq
  intro i hi
  simp [hi]
theorem fb_xorI (a b : Nat) : nI a ^^^ nI b = nI (a ^^^ b) := by
  apply Int32.toBitVec_inj.1
  show BitVec.ofNat 32 a ^^^ BitVec.ofNat 32 b = BitVec.ofNat 32 (a ^^^ b)
  apply BitVec.eq_of_getLsbD_eq
  intro i hi
  simp [hi]
theorem s_l : ∀ n, n < 32 → ((nI n &&& 31).toBitVec.smod 32).toNat = n := by decide +kernel
theorem kw (i : Nat) {w : Cond} (h : lw_tbl[i]? = some w ∧ goodWord w = true) : w ∈ ks_all := List.mem_filter.mpr ⟨List.mem_of_getElem? h.1, h.2⟩
theorem kinc (n : Nat) {a : Nat} {z : Int} (h : z = n) : nI a + Int32.ofInt z = nI (a + n) := by
  subst h
  have e : Int32.ofInt (n : Int) = nI n := by
    unfold nI
    first | exact Int32.ofInt_eq_ofNat | simp
  rw [e, nI_add]
theorem kI_eq {a b : Nat} (ha : a < 2147483648) (hb : b < 2147483648) : nI a = nI b ↔ a = b := nI_eq ha hb
theorem kI_eq0 {a : Nat} (ha : a < 2147483648) : nI a = 0 ↔ a = 0 := by rw [← nI_0]; exact nI_eq ha (by decide)
theorem kI_lt0 {a : Nat} (ha : a < 2147483648) : nI a < 0 ↔ a < 0 := by rw [← nI_0]; exact nI_ltI ha (by decide)
theorem kI_ge0 {a : Nat} (ha : a < 2147483648) : (0 : Int32) ≤ nI a ↔ 0 ≤ a := by rw [← nI_0]; exact nI_leI (by decide) ha
theorem kI_gt0 {a : Nat} (ha : a < 2147483648) : (0 : Int32) < nI a ↔ 0 < a := by rw [← nI_0]; exact nI_ltI (by decide) ha
theorem kI_le0 {a : Nat} (ha : a < 2147483648) : nI a ≤ 0 ↔ a ≤ 0 := by rw [← nI_0]; exact nI_leI ha (by decide)
theorem k_max {a b : Nat} (ha : a < 2147483648) (hb : b < 2147483648) : (if nI a < nI b then nI b else nI a) = nI (max a b) := by
  by_cases h : a < b
  · rw [if_pos ((nI_ltI ha hb).mpr h), Nat.max_eq_right (by omega)]
  · rw [if_neg (fun q => h ((nI_ltI ha hb).mp q)), Nat.max_eq_left (by omega)]
theorem k_min {a b : Nat} (ha : a < 2147483648) (hb : b < 2147483648) : (if nI b < nI a then nI b else nI a) = nI (min a b) := by
  by_cases h : b < a
  · rw [if_pos ((nI_ltI hb ha).mpr h), Nat.min_eq_right (by omega)]
  · rw [if_neg (fun q => h ((nI_ltI hb ha).mp q)), Nat.min_eq_left (by omega)]
theorem k_shl {a b : Nat} (h : b < 32) : nI a <<< (nI b &&& 31) = nI (a <<< b) := by
  apply Int32.toBitVec_inj.mp
  apply BitVec.eq_of_toNat_eq
  rw [pk_shl (nI a) (nI b &&& 31) b (s_l b h), Nat.shiftLeft_eq]
  show (BitVec.ofNat 32 a).toNat * 2 ^ b % 2 ^ 32 = (BitVec.ofNat 32 (a * 2 ^ b)).toNat
  rw [BitVec.toNat_ofNat, BitVec.toNat_ofNat, Nat.mod_mul_mod]
theorem k_shr {a b : Nat} (ha : a < 2147483648) (h : b < 32) : nI a >>> (nI b &&& 31) = nI (a >>> b) := by
  rw [pk_shrN ha (nI b &&& 31) b (s_l b h), Nat.shiftRight_eq_div_pow]
def sr (M : ks_M) (i : Nat) (x : Nat → Nat) : ks_M := fun a b => if a = i then x b else M a b
def up1 (x : Nat → Nat) (k n : Nat) : Nat → Nat := fun b => if b = k then n else x b
theorem sr_s (M : ks_M) (i : Nat) (x : Nat → Nat) : sr M i x i = x := by funext b; simp [sr]
theorem sr_o {M : ks_M} {i a : Nat} {x : Nat → Nat} (h : a ≠ i) : sr M i x a = M a := by funext b; simp [sr, h]
theorem sr_up (M : ks_M) (i k n : Nat) : up2 M i k n = sr M i (up1 (M i) k n) := by
  funext a b
  by_cases h : a = i <;> simp [up2, sr, up1, h]
theorem sr_sr (M : ks_M) (i : Nat) (x y : Nat → Nat) : sr (sr M i x) i y = sr M i y := by
  funext a b
  by_cases h : a = i <;> simp [sr, h]
theorem sr_id (M : ks_M) (i : Nat) : sr M i (M i) = M := by
  funext a b
  by_cases h : a = i <;> simp [sr, h]
theorem sr_eq {M M' : ks_M} {i : Nat} {x : Nat → Nat} (h1 : M' i = x) (h2 : ∀ a, a ≠ i → M' a = M a) : M' = sr M i x := by
  funext a b
  by_cases h : a = i
  · subst h; rw [sr_s, h1]
  · rw [sr_o h, h2 a h]
def kSt : ks_S := (0, 3, [(0, 0), (0, 0), (0, 0), (0, 0), (0, 0), (0, 0), (0, 0)])
def SH : List ks_S := [(0, 6, [(3, 1), (3, 3), (3, 7), (3, 8), (3, 9), (3, 25), (3, 35), (3, 40), (3, 43), (0, 0), (1, 0)]), (0, 5, [(3, 2), (0, 0)]), (1, 48, []), (0, 4, [(3, 4), (3, 5), (3, 6), (0, 0), (0, 0)]), (1, 6, []), (1, 18, []), (1, 36, []), kSt, kSt, (0, 0, [(3, 10), (0, 0), (0, 0)]), (3, 14, [(3, 11), (3, 12), (3, 13), (3, 14), (3, 15), (3, 16), (3, 17), (3, 18), (3, 19), (3, 20), (3, 21), (3, 22), (3, 23), (3, 24)]), kSt, kSt, kSt, kSt, kSt, kSt, kSt, kSt, kSt, kSt, kSt, kSt, kSt, kSt, (0, 1, [(3, 26), (3, 34)]), (3, 7, [(3, 27), (3, 28), (3, 29), (3, 30), (3, 31), (3, 32), (3, 33)]), kSt, kSt, kSt, kSt, kSt, kSt, kSt, kSt, (0, 2, [(3, 36), (3, 37), (3, 38), (3, 39), (0, 0)]), (1, 6, []), (1, 6, []), (1, 6, []), (1, 6, []), (3, 2, [(3, 41), (3, 42)]), kSt, kSt, (1, 6, []), (0, 7, [(0, 0), (3, 45), (0, 0), (0, 0), (0, 0), (3, 46), (3, 47), (0, 0), (0, 0), (3, 48), (3, 49), (3, 50), (3, 51), (3, 52), (0, 0), (3, 53), (3, 54), (0, 0), (3, 55), (3, 56), (3, 57), (3, 58), (1, 0), (0, 0), (0, 0), (0, 0), (0, 0), (3, 59), (3, 60), (0, 0)]), (1, 48, []), (1, 6, []), (1, 18, []), (1, 24, []), (1, 12, []), (1, 12, []), (1, 12, []), (1, 168, []), (1, 24, []), (2, 2, []), (1, 6, []), (1, 6, []), (1, 6, []), (1, 6, []), (1, 64, []), (1, 6, [])]
theorem kh_0 : SH[0]? = some (0, 6, [(3, 1), (3, 3), (3, 7), (3, 8), (3, 9), (3, 25), (3, 35), (3, 40), (3, 43), (0, 0), (1, 0)]) := rfl
theorem kh_1 : SH[1]? = some (0, 5, [(3, 2), (0, 0)]) := rfl
theorem kh_2 : SH[2]? = some (1, 48, []) := rfl
theorem kh_3 : SH[3]? = some (0, 4, [(3, 4), (3, 5), (3, 6), (0, 0), (0, 0)]) := rfl
theorem kh_4 : SH[4]? = some (1, 6, []) := rfl
theorem kh_5 : SH[5]? = some (1, 18, []) := rfl
theorem kh_6 : SH[6]? = some (1, 36, []) := rfl
theorem kh_7 : SH[7]? = some kSt := rfl
theorem kh_8 : SH[8]? = some kSt := rfl
theorem kh_9 : SH[9]? = some (0, 0, [(3, 10), (0, 0), (0, 0)]) := rfl
theorem kh_10 : SH[10]? = some (3, 14, [(3, 11), (3, 12), (3, 13), (3, 14), (3, 15), (3, 16), (3, 17), (3, 18), (3, 19), (3, 20), (3, 21), (3, 22), (3, 23), (3, 24)]) := rfl
theorem kh_11 : SH[11]? = some kSt := rfl
theorem kh_12 : SH[12]? = some kSt := rfl
theorem kh_13 : SH[13]? = some kSt := rfl
theorem kh_14 : SH[14]? = some kSt := rfl
theorem kh_15 : SH[15]? = some kSt := rfl
theorem kh_16 : SH[16]? = some kSt := rfl
theorem kh_17 : SH[17]? = some kSt := rfl
theorem kh_18 : SH[18]? = some kSt := rfl
theorem kh_19 : SH[19]? = some kSt := rfl
theorem kh_20 : SH[20]? = some kSt := rfl
theorem kh_21 : SH[21]? = some kSt := rfl
theorem kh_22 : SH[22]? = some kSt := rfl
theorem kh_23 : SH[23]? = some kSt := rfl
theorem kh_24 : SH[24]? = some kSt := rfl
theorem kh_25 : SH[25]? = some (0, 1, [(3, 26), (3, 34)]) := rfl
theorem kh_26 : SH[26]? = some (3, 7, [(3, 27), (3, 28), (3, 29), (3, 30), (3, 31), (3, 32), (3, 33)]) := rfl
theorem kh_27 : SH[27]? = some kSt := rfl
theorem kh_28 : SH[28]? = some kSt := rfl
theorem kh_29 : SH[29]? = some kSt := rfl
theorem kh_30 : SH[30]? = some kSt := rfl
theorem kh_31 : SH[31]? = some kSt := rfl
theorem kh_32 : SH[32]? = some kSt := rfl
theorem kh_33 : SH[33]? = some kSt := rfl
theorem kh_34 : SH[34]? = some kSt := rfl
theorem kh_35 : SH[35]? = some (0, 2, [(3, 36), (3, 37), (3, 38), (3, 39), (0, 0)]) := rfl
theorem kh_36 : SH[36]? = some (1, 6, []) := rfl
theorem kh_37 : SH[37]? = some (1, 6, []) := rfl
theorem kh_38 : SH[38]? = some (1, 6, []) := rfl
theorem kh_39 : SH[39]? = some (1, 6, []) := rfl
theorem kh_40 : SH[40]? = some (3, 2, [(3, 41), (3, 42)]) := rfl
theorem kh_41 : SH[41]? = some kSt := rfl
theorem kh_42 : SH[42]? = some kSt := rfl
theorem kh_43 : SH[43]? = some (1, 6, []) := rfl
theorem kh_44 : SH[44]? = some (0, 7, [(0, 0), (3, 45), (0, 0), (0, 0), (0, 0), (3, 46), (3, 47), (0, 0), (0, 0), (3, 48), (3, 49), (3, 50), (3, 51), (3, 52), (0, 0), (3, 53), (3, 54), (0, 0), (3, 55), (3, 56), (3, 57), (3, 58), (1, 0), (0, 0), (0, 0), (0, 0), (0, 0), (3, 59), (3, 60), (0, 0)]) := rfl
theorem kh_45 : SH[45]? = some (1, 48, []) := rfl
theorem kh_46 : SH[46]? = some (1, 6, []) := rfl
theorem kh_47 : SH[47]? = some (1, 18, []) := rfl
theorem kh_48 : SH[48]? = some (1, 24, []) := rfl
theorem kh_49 : SH[49]? = some (1, 12, []) := rfl
theorem kh_50 : SH[50]? = some (1, 12, []) := rfl
theorem kh_51 : SH[51]? = some (1, 12, []) := rfl
theorem kh_52 : SH[52]? = some (1, 168, []) := rfl
theorem kh_53 : SH[53]? = some (1, 24, []) := rfl
theorem kh_54 : SH[54]? = some (2, 2, []) := rfl
theorem kh_55 : SH[55]? = some (1, 6, []) := rfl
theorem kh_56 : SH[56]? = some (1, 6, []) := rfl
theorem kh_57 : SH[57]? = some (1, 6, []) := rfl
theorem kh_58 : SH[58]? = some (1, 6, []) := rfl
theorem kh_59 : SH[59]? = some (1, 64, []) := rfl
theorem kh_60 : SH[60]? = some (1, 6, []) := rfl
theorem fk_X0_13 : ks_lk RX0 13 0 RX0 TX0 3 0 := ⟨kX0, by decide, kw 132 (by decide +kernel)⟩
theorem fk_X0_19 : ks_lk RX0 19 0 RX0 TX0 3 1 := ⟨kX0, by decide, kw 133 (by decide +kernel)⟩
theorem fk_X0_23 : ks_lk RX0 23 0 RX0 TX0 3 2 := ⟨kX0, by decide, kw 134 (by decide +kernel)⟩
theorem fk_X1_13 : ks_lk RX1 13 1 RX1 TX1 2 0 := ⟨kX1, by decide, kw 152 (by decide +kernel)⟩
theorem fk_X1_22 : ks_lk RX1 22 1 RX1 TX1 2 1 := ⟨kX1, by decide, kw 153 (by decide +kernel)⟩
theorem fk_X1_34 : ks_lk RX1 34 3 RX3 TX3 7 3 := ⟨kX3, by decide, kw 97 (by decide +kernel)⟩
theorem fk_X2_9 : ks_lk RX2 9 2 RX2 TX2 5 0 := ⟨kX2, by decide, kw 165 (by decide +kernel)⟩
theorem fk_X2_15 : ks_lk RX2 15 2 RX2 TX2 5 1 := ⟨kX2, by decide, kw 166 (by decide +kernel)⟩
theorem fk_X2_18 : ks_lk RX2 18 2 RX2 TX2 5 2 := ⟨kX2, by decide, kw 167 (by decide +kernel)⟩
theorem fk_X2_21 : ks_lk RX2 21 2 RX2 TX2 5 3 := ⟨kX2, by decide, kw 168 (by decide +kernel)⟩
theorem fk_X2_24 : ks_lk RX2 24 2 RX2 TX2 5 4 := ⟨kX2, by decide, kw 169 (by decide +kernel)⟩
theorem fk_X3_9 : ks_lk RX3 9 3 RX3 TX3 7 0 := ⟨kX3, by decide, kw 90 (by decide +kernel)⟩
theorem fk_X3_15 : ks_lk RX3 15 3 RX3 TX3 7 1 := ⟨kX3, by decide, kw 92 (by decide +kernel)⟩
theorem fk_X3_18 : ks_lk RX3 18 3 RX3 TX3 7 2 := ⟨kX3, by decide, kw 94 (by decide +kernel)⟩
theorem fk_X3_21 : ks_lk RX3 21 3 RX3 TX3 7 3 := ⟨kX3, by decide, kw 96 (by decide +kernel)⟩
theorem fk_X3_24 : ks_lk RX3 24 3 RX3 TX3 7 4 := ⟨kX3, by decide, kw 99 (by decide +kernel)⟩
theorem fk_X3_27 : ks_lk RX3 27 3 RX3 TX3 7 5 := ⟨kX3, by decide, kw 101 (by decide +kernel)⟩
theorem fk_X3_30 : ks_lk RX3 30 3 RX3 TX3 7 6 := ⟨kX3, by decide, kw 103 (by decide +kernel)⟩
theorem fk_X3_33 : ks_lk RX3 33 4 RX4 TX4 5 4 := ⟨kX4, by decide, kw 72 (by decide +kernel)⟩
theorem fk_X3_36 : ks_lk RX3 36 4 RX4 TX4 5 3 := ⟨kX4, by decide, kw 69 (by decide +kernel)⟩
theorem fk_X3_39 : ks_lk RX3 39 4 RX4 TX4 5 2 := ⟨kX4, by decide, kw 67 (by decide +kernel)⟩
theorem fk_X4_9 : ks_lk RX4 9 4 RX4 TX4 5 0 := ⟨kX4, by decide, kw 64 (by decide +kernel)⟩
theorem fk_X4_15 : ks_lk RX4 15 4 RX4 TX4 5 1 := ⟨kX4, by decide, kw 65 (by decide +kernel)⟩
theorem fk_X4_18 : ks_lk RX4 18 4 RX4 TX4 5 2 := ⟨kX4, by decide, kw 66 (by decide +kernel)⟩
theorem fk_X4_21 : ks_lk RX4 21 4 RX4 TX4 5 3 := ⟨kX4, by decide, kw 68 (by decide +kernel)⟩
theorem fk_X4_25 : ks_lk RX4 25 4 RX4 TX4 5 4 := ⟨kX4, by decide, kw 71 (by decide +kernel)⟩
theorem fk_X5_9 : ks_lk RX5 9 5 RX5 TX5 2 0 := ⟨kX5, by decide, kw 49 (by decide +kernel)⟩
theorem fk_X5_15 : ks_lk RX5 15 5 RX5 TX5 2 1 := ⟨kX5, by decide, kw 50 (by decide +kernel)⟩
theorem fk_X6_10 : ks_lk RX6 10 6 RX6 TX6 11 0 := ⟨kX6, by decide, kw 183 (by decide +kernel)⟩
theorem fk_X6_19 : ks_lk RX6 19 6 RX6 TX6 11 1 := ⟨kX6, by decide, kw 184 (by decide +kernel)⟩
theorem fk_X6_26 : ks_lk RX6 26 6 RX6 TX6 11 2 := ⟨kX6, by decide, kw 185 (by decide +kernel)⟩
theorem fk_X6_30 : ks_lk RX6 30 6 RX6 TX6 11 3 := ⟨kX6, by decide, kw 186 (by decide +kernel)⟩
theorem fk_X6_36 : ks_lk RX6 36 6 RX6 TX6 11 4 := ⟨kX6, by decide, kw 187 (by decide +kernel)⟩
theorem fk_X6_43 : ks_lk RX6 43 6 RX6 TX6 11 5 := ⟨kX6, by decide, kw 188 (by decide +kernel)⟩
theorem fk_X6_50 : ks_lk RX6 50 6 RX6 TX6 11 6 := ⟨kX6, by decide, kw 189 (by decide +kernel)⟩
theorem fk_X6_58 : ks_lk RX6 58 6 RX6 TX6 11 7 := ⟨kX6, by decide, kw 190 (by decide +kernel)⟩
theorem fk_X6_62 : ks_lk RX6 62 6 RX6 TX6 11 8 := ⟨kX6, by decide, kw 191 (by decide +kernel)⟩
theorem fk_X6_66 : ks_lk RX6 66 6 RX6 TX6 11 9 := ⟨kX6, by decide, kw 192 (by decide +kernel)⟩
theorem fk_X6_70 : ks_lk RX6 70 6 RX6 TX6 11 10 := ⟨kX6, by decide, kw 193 (by decide +kernel)⟩
theorem fk_X6_74 : ks_lk RX6 74 5 RX5 TX5 2 1 := ⟨kX5, by decide, kw 51 (by decide +kernel)⟩
theorem fk_X6_93 : ks_lk RX6 93 0 RX0 TX0 3 2 := ⟨kX0, by decide, kw 135 (by decide +kernel)⟩
theorem fk_X6_96 : ks_lk RX6 96 4 RX4 TX4 5 3 := ⟨kX4, by decide, kw 70 (by decide +kernel)⟩
theorem fk_X6_97 : ks_lk RX6 97 3 RX3 TX3 7 0 := ⟨kX3, by decide, kw 91 (by decide +kernel)⟩
theorem fk_X6_100 : ks_lk RX6 100 3 RX3 TX3 7 1 := ⟨kX3, by decide, kw 93 (by decide +kernel)⟩
theorem fk_X6_103 : ks_lk RX6 103 3 RX3 TX3 7 2 := ⟨kX3, by decide, kw 95 (by decide +kernel)⟩
theorem fk_X6_106 : ks_lk RX6 106 3 RX3 TX3 7 3 := ⟨kX3, by decide, kw 98 (by decide +kernel)⟩
theorem fk_X6_109 : ks_lk RX6 109 3 RX3 TX3 7 4 := ⟨kX3, by decide, kw 100 (by decide +kernel)⟩
theorem fk_X6_112 : ks_lk RX6 112 3 RX3 TX3 7 5 := ⟨kX3, by decide, kw 102 (by decide +kernel)⟩
theorem fk_X6_115 : ks_lk RX6 115 2 RX2 TX2 5 4 := ⟨kX2, by decide, kw 170 (by decide +kernel)⟩
theorem fk_X7_7 : ks_lk RX7 7 7 RX7 TX7 30 1 := ⟨kX7, by decide, kw 523 (by decide +kernel)⟩
theorem fk_X7_13 : ks_lk RX7 13 7 RX7 TX7 30 5 := ⟨kX7, by decide, kw 527 (by decide +kernel)⟩
theorem fk_X7_16 : ks_lk RX7 16 7 RX7 TX7 30 6 := ⟨kX7, by decide, kw 528 (by decide +kernel)⟩
theorem fk_X7_19 : ks_lk RX7 19 7 RX7 TX7 30 9 := ⟨kX7, by decide, kw 531 (by decide +kernel)⟩
theorem fk_X7_22 : ks_lk RX7 22 7 RX7 TX7 30 10 := ⟨kX7, by decide, kw 532 (by decide +kernel)⟩
theorem fk_X7_25 : ks_lk RX7 25 7 RX7 TX7 30 11 := ⟨kX7, by decide, kw 533 (by decide +kernel)⟩
theorem fk_X7_28 : ks_lk RX7 28 7 RX7 TX7 30 12 := ⟨kX7, by decide, kw 534 (by decide +kernel)⟩
theorem fk_X7_31 : ks_lk RX7 31 7 RX7 TX7 30 13 := ⟨kX7, by decide, kw 535 (by decide +kernel)⟩
theorem fk_X7_34 : ks_lk RX7 34 7 RX7 TX7 30 15 := ⟨kX7, by decide, kw 537 (by decide +kernel)⟩
theorem fk_X7_37 : ks_lk RX7 37 7 RX7 TX7 30 16 := ⟨kX7, by decide, kw 538 (by decide +kernel)⟩
theorem fk_X7_41 : ks_lk RX7 41 7 RX7 TX7 30 18 := ⟨kX7, by decide, kw 540 (by decide +kernel)⟩
theorem fk_X7_44 : ks_lk RX7 44 7 RX7 TX7 30 19 := ⟨kX7, by decide, kw 541 (by decide +kernel)⟩
theorem fk_X7_47 : ks_lk RX7 47 7 RX7 TX7 30 20 := ⟨kX7, by decide, kw 542 (by decide +kernel)⟩
theorem fk_X7_50 : ks_lk RX7 50 7 RX7 TX7 30 21 := ⟨kX7, by decide, kw 543 (by decide +kernel)⟩
theorem fk_X7_53 : ks_lk RX7 53 7 RX7 TX7 30 27 := ⟨kX7, by decide, kw 549 (by decide +kernel)⟩
theorem fk_X7_56 : ks_lk RX7 56 7 RX7 TX7 30 28 := ⟨kX7, by decide, kw 550 (by decide +kernel)⟩
theorem fk_X7_59 : ks_lk RX7 59 7 RX7 TX7 30 0 := ⟨kX7, by decide, kw 522 (by decide +kernel)⟩
theorem fk_X7_63 : ks_lk RX7 63 7 RX7 TX7 30 4 := ⟨kX7, by decide, kw 526 (by decide +kernel)⟩
theorem fk_X7_72 : ks_lk RX7 72 7 RX7 TX7 30 2 := ⟨kX7, by decide, kw 524 (by decide +kernel)⟩
theorem fk_X7_75 : ks_lk RX7 75 7 RX7 TX7 30 3 := ⟨kX7, by decide, kw 525 (by decide +kernel)⟩
theorem fk_X7_82 : ks_lk RX7 82 7 RX7 TX7 30 8 := ⟨kX7, by decide, kw 530 (by decide +kernel)⟩
theorem fk_X7_85 : ks_lk RX7 85 7 RX7 TX7 30 7 := ⟨kX7, by decide, kw 529 (by decide +kernel)⟩
theorem fk_X7_95 : ks_lk RX7 95 7 RX7 TX7 30 14 := ⟨kX7, by decide, kw 536 (by decide +kernel)⟩
theorem fk_X7_106 : ks_lk RX7 106 7 RX7 TX7 30 17 := ⟨kX7, by decide, kw 539 (by decide +kernel)⟩
theorem fk_X7_132 : ks_lk RX7 132 7 RX7 TX7 30 23 := ⟨kX7, by decide, kw 545 (by decide +kernel)⟩
theorem fk_X7_135 : ks_lk RX7 135 7 RX7 TX7 30 24 := ⟨kX7, by decide, kw 546 (by decide +kernel)⟩
theorem fk_X7_173 : ks_lk RX7 173 7 RX7 TX7 30 25 := ⟨kX7, by decide, kw 547 (by decide +kernel)⟩
theorem fk_X7_176 : ks_lk RX7 176 7 RX7 TX7 30 26 := ⟨kX7, by decide, kw 548 (by decide +kernel)⟩
theorem fk_X7_185 : ks_lk RX7 185 7 RX7 TX7 30 29 := ⟨kX7, by decide, kw 551 (by decide +kernel)⟩
theorem fk_X7_191 : ks_lk RX7 191 7 RX7 TX7 30 22 := ⟨kX7, by decide, kw 544 (by decide +kernel)⟩
theorem kp_X0_1 : (TX0 1).2.2.2 = false ∧ parseFieldDescriptor (TX0 1).2.2.1 = some .int := by decide +kernel
theorem kp_X0_2 : (TX0 2).2.2.2 = false ∧ parseFieldDescriptor (TX0 2).2.2.1 = some .int := by decide +kernel
theorem kp_X2_4 : (TX2 4).2.2.2 = false ∧ parseFieldDescriptor (TX2 4).2.2.1 = some .int := by decide +kernel
theorem kp_X3_0 : (TX3 0).2.2.2 = false ∧ parseFieldDescriptor (TX3 0).2.2.1 = some .int := by decide +kernel
theorem kp_X3_1 : (TX3 1).2.2.2 = false ∧ parseFieldDescriptor (TX3 1).2.2.1 = some .int := by decide +kernel
theorem kp_X3_2 : (TX3 2).2.2.2 = false ∧ parseFieldDescriptor (TX3 2).2.2.1 = some .int := by decide +kernel
theorem kp_X3_3 : (TX3 3).2.2.2 = false ∧ parseFieldDescriptor (TX3 3).2.2.1 = some .int := by decide +kernel
theorem kp_X3_4 : (TX3 4).2.2.2 = false ∧ parseFieldDescriptor (TX3 4).2.2.1 = some .int := by decide +kernel
theorem kp_X3_5 : (TX3 5).2.2.2 = false ∧ parseFieldDescriptor (TX3 5).2.2.1 = some .int := by decide +kernel
theorem kp_X3_6 : (TX3 6).2.2.2 = false ∧ parseFieldDescriptor (TX3 6).2.2.1 = some .int := by decide +kernel
theorem kp_X4_3 : (TX4 3).2.2.2 = false ∧ parseFieldDescriptor (TX4 3).2.2.1 = some .int := by decide +kernel
theorem kp_X4_4 : (TX4 4).2.2.2 = false ∧ parseFieldDescriptor (TX4 4).2.2.1 = some .int := by decide +kernel
theorem kp_X5_1 : (TX5 1).2.2.2 = false ∧ parseFieldDescriptor (TX5 1).2.2.1 = some .int := by decide +kernel
theorem kp_X6_9 : (TX6 9).2.2.2 = false ∧ parseFieldDescriptor (TX6 9).2.2.1 = some .int := by decide +kernel
theorem kp_X6_10 : (TX6 10).2.2.2 = false ∧ parseFieldDescriptor (TX6 10).2.2.1 = some .long := by decide +kernel
theorem kp_X7_0 : (TX7 0).2.2.2 = false ∧ parseFieldDescriptor (TX7 0).2.2.1 = some .int := by decide +kernel
theorem kp_X7_2 : (TX7 2).2.2.2 = false ∧ parseFieldDescriptor (TX7 2).2.2.1 = some .int := by decide +kernel
theorem kp_X7_3 : (TX7 3).2.2.2 = false ∧ parseFieldDescriptor (TX7 3).2.2.1 = some .int := by decide +kernel
theorem kp_X7_4 : (TX7 4).2.2.2 = false ∧ parseFieldDescriptor (TX7 4).2.2.1 = some .int := by decide +kernel
theorem kp_X7_7 : (TX7 7).2.2.2 = false ∧ parseFieldDescriptor (TX7 7).2.2.1 = some .int := by decide +kernel
theorem kp_X7_8 : (TX7 8).2.2.2 = false ∧ parseFieldDescriptor (TX7 8).2.2.1 = some .int := by decide +kernel
theorem kp_X7_14 : (TX7 14).2.2.2 = false ∧ parseFieldDescriptor (TX7 14).2.2.1 = some .int := by decide +kernel
theorem kp_X7_17 : (TX7 17).2.2.2 = false ∧ parseFieldDescriptor (TX7 17).2.2.1 = some .int := by decide +kernel
theorem kp_X7_22 : (TX7 22).2.2.2 = false ∧ parseFieldDescriptor (TX7 22).2.2.1 = some .long := by decide +kernel
theorem kp_X7_23 : (TX7 23).2.2.2 = false ∧ parseFieldDescriptor (TX7 23).2.2.1 = some .int := by decide +kernel
theorem kp_X7_24 : (TX7 24).2.2.2 = false ∧ parseFieldDescriptor (TX7 24).2.2.1 = some .int := by decide +kernel
theorem kp_X7_25 : (TX7 25).2.2.2 = false ∧ parseFieldDescriptor (TX7 25).2.2.1 = some .int := by decide +kernel
theorem kp_X7_26 : (TX7 26).2.2.2 = false ∧ parseFieldDescriptor (TX7 26).2.2.1 = some .int := by decide +kernel
theorem kp_X7_29 : (TX7 29).2.2.2 = false ∧ parseFieldDescriptor (TX7 29).2.2.1 = some .int := by decide +kernel
theorem kb_m9 : (Int8.ofInt (-9)).toInt32 = (-9) := by decide
theorem kb_m4 : (Int8.ofInt (-4)).toInt32 = (-4) := by decide
theorem kb_m3 : (Int8.ofInt (-3)).toInt32 = (-3) := by decide
theorem kb_m2 : (Int8.ofInt (-2)).toInt32 = (-2) := by decide
theorem kb_6 : (Int8.ofInt (6)).toInt32 = nI 6 := by decide
theorem kb_7 : (Int8.ofInt (7)).toInt32 = nI 7 := by decide
theorem kb_8 : (Int8.ofInt (8)).toInt32 = nI 8 := by decide
theorem kb_9 : (Int8.ofInt (9)).toInt32 = nI 9 := by decide
theorem kb_10 : (Int8.ofInt (10)).toInt32 = nI 10 := by decide
theorem kb_12 : (Int8.ofInt (12)).toInt32 = nI 12 := by decide
theorem kb_14 : (Int8.ofInt (14)).toInt32 = nI 14 := by decide
theorem kb_18 : (Int8.ofInt (18)).toInt32 = nI 18 := by decide
theorem kb_24 : (Int8.ofInt (24)).toInt32 = nI 24 := by decide
theorem kb_30 : (Int8.ofInt (30)).toInt32 = nI 30 := by decide
theorem kb_31 : (Int8.ofInt (31)).toInt32 = nI 31 := by decide
theorem kb_32 : (Int8.ofInt (32)).toInt32 = nI 32 := by decide
theorem kb_33 : (Int8.ofInt (33)).toInt32 = nI 33 := by decide
theorem kb_36 : (Int8.ofInt (36)).toInt32 = nI 36 := by decide
theorem kb_48 : (Int8.ofInt (48)).toInt32 = nI 48 := by decide
theorem kb_64 : (Int8.ofInt (64)).toInt32 = nI 64 := by decide
theorem kb_72 : (Int8.ofInt (72)).toInt32 = nI 72 := by decide
theorem kb_78 : (Int8.ofInt (78)).toInt32 = nI 78 := by decide
theorem kb_99 : (Int8.ofInt (99)).toInt32 = nI 99 := by decide
theorem kc_m1 : Int32.ofInt (-1) = (-1) := by decide
theorem kc_0 : Int32.ofInt (0) = nI 0 := by decide
theorem kc_1 : Int32.ofInt (1) = nI 1 := by decide
theorem kc_2 : Int32.ofInt (2) = nI 2 := by decide
theorem kc_3 : Int32.ofInt (3) = nI 3 := by decide
theorem kc_4 : Int32.ofInt (4) = nI 4 := by decide
theorem kc_5 : Int32.ofInt (5) = nI 5 := by decide
theorem ks_156 : (Int16.ofInt (156)).toInt32 = nI 156 := by decide
theorem ks_168 : (Int16.ofInt (168)).toInt32 = nI 168 := by decide
theorem ks_255 : (Int16.ofInt (255)).toInt32 = nI 255 := by decide
theorem kl_RL_111 : Jvm.Cond.constantLong RL 111 4294967295 ∈ ks_all := kw 809 (by decide +kernel)
theorem kl_RX6_210 : Jvm.Cond.constantLong RX6 210 6364136223846793005 ∈ ks_all := kw 501 (by decide +kernel)
theorem kl_RX6_212 : Jvm.Cond.constantLong RX6 212 1442695040888963407 ∈ ks_all := kw 502 (by decide +kernel)
theorem kl_RX6_214 : Jvm.Cond.constantLong RX6 214 9 ∈ ks_all := kw 503 (by decide +kernel)
theorem kl_RX7_70 : Jvm.Cond.constantLong RX7 70 255 ∈ ks_all := kw 618 (by decide +kernel)
theorem kl_RX7_113 : Jvm.Cond.constantLong RX7 113 3 ∈ ks_all := kw 658 (by decide +kernel)
theorem kl_RX7_115 : Jvm.Cond.constantLong RX7 115 99 ∈ ks_all := kw 663 (by decide +kernel)
theorem kl_RX7_146 : Jvm.Cond.constantLong RX7 146 6 ∈ ks_all := kw 714 (by decide +kernel)
theorem kl_RX7_169 : Jvm.Cond.constantLong RX7 169 9 ∈ ks_all := kw 760 (by decide +kernel)
theorem kl_RX7_171 : Jvm.Cond.constantLong RX7 171 10 ∈ ks_all := kw 761 (by decide +kernel)
theorem kl_RX7_195 : Jvm.Cond.constantLong RX7 195 30 ∈ ks_all := kw 798 (by decide +kernel)
theorem kl_RX7_197 : Jvm.Cond.constantLong RX7 197 6364136223846793005 ∈ ks_all := kw 799 (by decide +kernel)
theorem kl_RX7_199 : Jvm.Cond.constantLong RX7 199 1442695040888963407 ∈ ks_all := kw 800 (by decide +kernel)
theorem km_RX1_58 : Cond.methodLink RX1 58 Lib.Math.max.name ∈ ks_all := kw 390 (by decide +kernel)
theorem km_RX4_38 : Cond.methodLink RX4 38 Lib.Math.min.name ∈ ks_all := kw 266 (by decide +kernel)
theorem km_RX6_225 : Cond.methodLink RX6 225 Lib.Math.max.name ∈ ks_all := kw 128 (by decide +kernel)
theorem ks_RL_9 : ks_sI RL 9 yX6_init cX6_init 1 0 := ⟨⟨kw 37 (by decide +kernel), kw 38 (by decide +kernel), kw 25 (by decide +kernel), kw 39 (by decide +kernel)⟩, ⟨by decide +kernel, by decide +kernel, by decide +kernel⟩, by decide +kernel⟩
theorem ks_RL_12 : ks_sI RL 12 yX7_init cX7_init 1 0 := ⟨⟨kw 518 (by decide +kernel), kw 519 (by decide +kernel), kw 33 (by decide +kernel), kw 520 (by decide +kernel)⟩, ⟨by decide +kernel, by decide +kernel, by decide +kernel⟩, by decide +kernel⟩
theorem ks_RL_13 : ks_sV RL 13 yX6_write cX6_write 2 (some .int) 1 := ⟨⟨kw 217 (by decide +kernel), kw 218 (by decide +kernel), kw 219 (by decide +kernel), kw 25 (by decide +kernel), kw 220 (by decide +kernel)⟩, ⟨by decide +kernel, by decide +kernel, by decide +kernel⟩⟩
theorem ks_RL_17 : ks_sV RL 17 yX7_write cX7_write 2 (some .int) 1 := ⟨⟨kw 614 (by decide +kernel), kw 615 (by decide +kernel), kw 616 (by decide +kernel), kw 33 (by decide +kernel), kw 617 (by decide +kernel)⟩, ⟨by decide +kernel, by decide +kernel, by decide +kernel⟩⟩
theorem ks_RL_18 : ks_sV RL 18 yX6_wipe cX6_wipe 2 (some .int) 0 := ⟨⟨kw 225 (by decide +kernel), kw 226 (by decide +kernel), kw 227 (by decide +kernel), kw 25 (by decide +kernel), kw 228 (by decide +kernel)⟩, ⟨by decide +kernel, by decide +kernel, by decide +kernel⟩⟩
theorem ks_RL_22 : ks_sV RL 22 yX7_wipe cX7_wipe 2 (some .int) 0 := ⟨⟨kw 622 (by decide +kernel), kw 623 (by decide +kernel), kw 624 (by decide +kernel), kw 33 (by decide +kernel), kw 625 (by decide +kernel)⟩, ⟨by decide +kernel, by decide +kernel, by decide +kernel⟩⟩
theorem ks_RL_23 : ks_sV RL 23 yX6_fault cX6_fault 1 (some .int) 0 := ⟨⟨kw 229 (by decide +kernel), kw 230 (by decide +kernel), kw 231 (by decide +kernel), kw 25 (by decide +kernel), kw 232 (by decide +kernel)⟩, ⟨by decide +kernel, by decide +kernel, by decide +kernel⟩⟩
theorem ks_RL_26 : ks_sV RL 26 yX7_fault cX7_fault 1 (some .int) 0 := ⟨⟨kw 626 (by decide +kernel), kw 627 (by decide +kernel), kw 628 (by decide +kernel), kw 33 (by decide +kernel), kw 629 (by decide +kernel)⟩, ⟨by decide +kernel, by decide +kernel, by decide +kernel⟩⟩
theorem ks_RL_27 : ks_sV RL 27 yX6_street cX6_street 1 (some .int) 0 := ⟨⟨kw 253 (by decide +kernel), kw 254 (by decide +kernel), kw 255 (by decide +kernel), kw 25 (by decide +kernel), kw 256 (by decide +kernel)⟩, ⟨by decide +kernel, by decide +kernel, by decide +kernel⟩⟩
theorem ks_RL_30 : ks_sV RL 30 yX7_street cX7_street 3 (some .int) 0 := ⟨⟨kw 642 (by decide +kernel), kw 643 (by decide +kernel), kw 644 (by decide +kernel), kw 33 (by decide +kernel), kw 645 (by decide +kernel)⟩, ⟨by decide +kernel, by decide +kernel, by decide +kernel⟩⟩
theorem ks_RL_31 : ks_sV RL 31 yX6_about cX6_about 2 (some .int) 1 := ⟨⟨kw 287 (by decide +kernel), kw 288 (by decide +kernel), kw 289 (by decide +kernel), kw 25 (by decide +kernel), kw 290 (by decide +kernel)⟩, ⟨by decide +kernel, by decide +kernel, by decide +kernel⟩⟩
theorem ks_RL_34 : ks_sV RL 34 yX7_about cX7_about 2 (some .int) 1 := ⟨⟨kw 646 (by decide +kernel), kw 647 (by decide +kernel), kw 648 (by decide +kernel), kw 33 (by decide +kernel), kw 649 (by decide +kernel)⟩, ⟨by decide +kernel, by decide +kernel, by decide +kernel⟩⟩
theorem ks_RL_35 : ks_sV RL 35 yX6_house cX6_house 3 (some .int) 2 := ⟨⟨kw 291 (by decide +kernel), kw 292 (by decide +kernel), kw 293 (by decide +kernel), kw 25 (by decide +kernel), kw 294 (by decide +kernel)⟩, ⟨by decide +kernel, by decide +kernel, by decide +kernel⟩⟩
theorem ks_RL_39 : ks_sV RL 39 yX7_house cX7_house 3 (some .int) 2 := ⟨⟨kw 650 (by decide +kernel), kw 651 (by decide +kernel), kw 652 (by decide +kernel), kw 33 (by decide +kernel), kw 653 (by decide +kernel)⟩, ⟨by decide +kernel, by decide +kernel, by decide +kernel⟩⟩
theorem ks_RL_40 : ks_sV RL 40 yX6_sight cX6_sight 3 (some .int) 2 := ⟨⟨kw 305 (by decide +kernel), kw 306 (by decide +kernel), kw 307 (by decide +kernel), kw 25 (by decide +kernel), kw 308 (by decide +kernel)⟩, ⟨by decide +kernel, by decide +kernel, by decide +kernel⟩⟩
theorem ks_RL_43 : ks_sV RL 43 yX7_sight cX7_sight 3 (some .int) 2 := ⟨⟨kw 659 (by decide +kernel), kw 660 (by decide +kernel), kw 661 (by decide +kernel), kw 33 (by decide +kernel), kw 662 (by decide +kernel)⟩, ⟨by decide +kernel, by decide +kernel, by decide +kernel⟩⟩
theorem ks_RL_44 : ks_sV RL 44 yX6_walk cX6_walk 2 (some .int) 1 := ⟨⟨kw 313 (by decide +kernel), kw 314 (by decide +kernel), kw 315 (by decide +kernel), kw 25 (by decide +kernel), kw 316 (by decide +kernel)⟩, ⟨by decide +kernel, by decide +kernel, by decide +kernel⟩⟩
theorem ks_RL_47 : ks_sV RL 47 yX7_walk cX7_walk 2 (some .int) 1 := ⟨⟨kw 674 (by decide +kernel), kw 675 (by decide +kernel), kw 676 (by decide +kernel), kw 33 (by decide +kernel), kw 677 (by decide +kernel)⟩, ⟨by decide +kernel, by decide +kernel, by decide +kernel⟩⟩
theorem ks_RL_48 : ks_sV RL 48 yX6_look cX6_look 1 (some .int) 0 := ⟨⟨kw 347 (by decide +kernel), kw 348 (by decide +kernel), kw 349 (by decide +kernel), kw 25 (by decide +kernel), kw 350 (by decide +kernel)⟩, ⟨by decide +kernel, by decide +kernel, by decide +kernel⟩⟩
theorem ks_RL_51 : ks_sV RL 51 yX7_look cX7_look 1 (some .int) 0 := ⟨⟨kw 690 (by decide +kernel), kw 691 (by decide +kernel), kw 692 (by decide +kernel), kw 33 (by decide +kernel), kw 693 (by decide +kernel)⟩, ⟨by decide +kernel, by decide +kernel, by decide +kernel⟩⟩
theorem ks_RL_52 : ks_sV RL 52 yX6_pause cX6_pause 1 (some .int) 0 := ⟨⟨kw 351 (by decide +kernel), kw 352 (by decide +kernel), kw 353 (by decide +kernel), kw 25 (by decide +kernel), kw 354 (by decide +kernel)⟩, ⟨by decide +kernel, by decide +kernel, by decide +kernel⟩⟩
theorem ks_RL_55 : ks_sV RL 55 yX7_pause cX7_pause 1 (some .int) 0 := ⟨⟨kw 694 (by decide +kernel), kw 695 (by decide +kernel), kw 696 (by decide +kernel), kw 33 (by decide +kernel), kw 697 (by decide +kernel)⟩, ⟨by decide +kernel, by decide +kernel, by decide +kernel⟩⟩
theorem ks_RL_56 : ks_sV RL 56 yX6_lamp cX6_lamp 2 (some .int) 1 := ⟨⟨kw 355 (by decide +kernel), kw 356 (by decide +kernel), kw 357 (by decide +kernel), kw 25 (by decide +kernel), kw 358 (by decide +kernel)⟩, ⟨by decide +kernel, by decide +kernel, by decide +kernel⟩⟩
theorem ks_RL_59 : ks_sV RL 59 yX7_lamp cX7_lamp 2 (some .int) 1 := ⟨⟨kw 698 (by decide +kernel), kw 699 (by decide +kernel), kw 700 (by decide +kernel), kw 33 (by decide +kernel), kw 701 (by decide +kernel)⟩, ⟨by decide +kernel, by decide +kernel, by decide +kernel⟩⟩
theorem ks_RL_60 : ks_sV RL 60 yX6_key cX6_key 2 (some .int) 1 := ⟨⟨kw 359 (by decide +kernel), kw 360 (by decide +kernel), kw 361 (by decide +kernel), kw 25 (by decide +kernel), kw 362 (by decide +kernel)⟩, ⟨by decide +kernel, by decide +kernel, by decide +kernel⟩⟩
theorem ks_RL_63 : ks_sV RL 63 yX7_key cX7_key 2 (some .int) 1 := ⟨⟨kw 702 (by decide +kernel), kw 703 (by decide +kernel), kw 704 (by decide +kernel), kw 33 (by decide +kernel), kw 705 (by decide +kernel)⟩, ⟨by decide +kernel, by decide +kernel, by decide +kernel⟩⟩
theorem ks_RL_64 : ks_sV RL 64 yX6_undo cX6_undo 1 (some .int) 0 := ⟨⟨kw 363 (by decide +kernel), kw 364 (by decide +kernel), kw 365 (by decide +kernel), kw 25 (by decide +kernel), kw 366 (by decide +kernel)⟩, ⟨by decide +kernel, by decide +kernel, by decide +kernel⟩⟩
theorem ks_RL_67 : ks_sV RL 67 yX7_undo cX7_undo 2 (some .int) 0 := ⟨⟨kw 706 (by decide +kernel), kw 707 (by decide +kernel), kw 708 (by decide +kernel), kw 33 (by decide +kernel), kw 709 (by decide +kernel)⟩, ⟨by decide +kernel, by decide +kernel, by decide +kernel⟩⟩
theorem ks_RL_68 : ks_sV RL 68 yX6_best cX6_best 3 (some .int) 2 := ⟨⟨kw 371 (by decide +kernel), kw 372 (by decide +kernel), kw 373 (by decide +kernel), kw 25 (by decide +kernel), kw 374 (by decide +kernel)⟩, ⟨by decide +kernel, by decide +kernel, by decide +kernel⟩⟩
theorem ks_RL_72 : ks_sV RL 72 yX7_best cX7_best 3 (some .int) 2 := ⟨⟨kw 710 (by decide +kernel), kw 711 (by decide +kernel), kw 712 (by decide +kernel), kw 33 (by decide +kernel), kw 713 (by decide +kernel)⟩, ⟨by decide +kernel, by decide +kernel, by decide +kernel⟩⟩
theorem ks_RL_73 : ks_sV RL 73 yX6_fewest cX6_fewest 3 (some .int) 1 := ⟨⟨kw 396 (by decide +kernel), kw 397 (by decide +kernel), kw 398 (by decide +kernel), kw 25 (by decide +kernel), kw 399 (by decide +kernel)⟩, ⟨by decide +kernel, by decide +kernel, by decide +kernel⟩⟩
theorem ks_RL_76 : ks_sV RL 76 yX7_fewest cX7_fewest 4 (some .int) 1 := ⟨⟨kw 725 (by decide +kernel), kw 726 (by decide +kernel), kw 727 (by decide +kernel), kw 33 (by decide +kernel), kw 728 (by decide +kernel)⟩, ⟨by decide +kernel, by decide +kernel, by decide +kernel⟩⟩
theorem ks_RL_77 : ks_sV RL 77 yX6_keys cX6_keys 7 (some .int) 2 := ⟨⟨kw 400 (by decide +kernel), kw 401 (by decide +kernel), kw 402 (by decide +kernel), kw 25 (by decide +kernel), kw 403 (by decide +kernel)⟩, ⟨by decide +kernel, by decide +kernel, by decide +kernel⟩⟩
theorem ks_RL_80 : ks_sV RL 80 yX7_keys cX7_keys 5 (some .int) 2 := ⟨⟨kw 729 (by decide +kernel), kw 730 (by decide +kernel), kw 731 (by decide +kernel), kw 33 (by decide +kernel), kw 732 (by decide +kernel)⟩, ⟨by decide +kernel, by decide +kernel, by decide +kernel⟩⟩
theorem ks_RL_81 : ks_sV RL 81 yX6_judge cX6_judge 6 (some .int) 2 := ⟨⟨kw 415 (by decide +kernel), kw 416 (by decide +kernel), kw 417 (by decide +kernel), kw 25 (by decide +kernel), kw 418 (by decide +kernel)⟩, ⟨by decide +kernel, by decide +kernel, by decide +kernel⟩⟩
theorem ks_RL_84 : ks_sV RL 84 yX7_judge cX7_judge 6 (some .int) 2 := ⟨⟨kw 736 (by decide +kernel), kw 737 (by decide +kernel), kw 738 (by decide +kernel), kw 33 (by decide +kernel), kw 739 (by decide +kernel)⟩, ⟨by decide +kernel, by decide +kernel, by decide +kernel⟩⟩
theorem ks_RL_85 : ks_sV RL 85 yX6_share cX6_share 7 (some .int) 2 := ⟨⟨kw 428 (by decide +kernel), kw 429 (by decide +kernel), kw 430 (by decide +kernel), kw 25 (by decide +kernel), kw 431 (by decide +kernel)⟩, ⟨by decide +kernel, by decide +kernel, by decide +kernel⟩⟩
theorem ks_RL_88 : ks_sV RL 88 yX7_share cX7_share 6 (some .int) 2 := ⟨⟨kw 743 (by decide +kernel), kw 744 (by decide +kernel), kw 745 (by decide +kernel), kw 33 (by decide +kernel), kw 746 (by decide +kernel)⟩, ⟨by decide +kernel, by decide +kernel, by decide +kernel⟩⟩
theorem ks_RL_89 : ks_sV RL 89 yX6_see cX6_see 5 (some .int) 4 := ⟨⟨kw 445 (by decide +kernel), kw 446 (by decide +kernel), kw 447 (by decide +kernel), kw 25 (by decide +kernel), kw 448 (by decide +kernel)⟩, ⟨by decide +kernel, by decide +kernel, by decide +kernel⟩⟩
theorem ks_RL_93 : ks_sV RL 93 yX7_see cX7_see 5 (some .int) 4 := ⟨⟨kw 756 (by decide +kernel), kw 757 (by decide +kernel), kw 758 (by decide +kernel), kw 33 (by decide +kernel), kw 759 (by decide +kernel)⟩, ⟨by decide +kernel, by decide +kernel, by decide +kernel⟩⟩
theorem ks_RL_94 : ks_sV RL 94 yX6_unsee cX6_unsee 2 (some .int) 0 := ⟨⟨kw 453 (by decide +kernel), kw 454 (by decide +kernel), kw 455 (by decide +kernel), kw 25 (by decide +kernel), kw 456 (by decide +kernel)⟩, ⟨by decide +kernel, by decide +kernel, by decide +kernel⟩⟩
theorem ks_RL_97 : ks_sV RL 97 yX7_unsee cX7_unsee 2 (some .int) 0 := ⟨⟨kw 762 (by decide +kernel), kw 763 (by decide +kernel), kw 764 (by decide +kernel), kw 33 (by decide +kernel), kw 765 (by decide +kernel)⟩, ⟨by decide +kernel, by decide +kernel, by decide +kernel⟩⟩
theorem ks_RL_98 : ks_sV RL 98 yX6_shapes cX6_shapes 4 (some .int) 1 := ⟨⟨kw 457 (by decide +kernel), kw 458 (by decide +kernel), kw 459 (by decide +kernel), kw 25 (by decide +kernel), kw 460 (by decide +kernel)⟩, ⟨by decide +kernel, by decide +kernel, by decide +kernel⟩⟩
theorem ks_RL_101 : ks_sV RL 101 yX7_shapes cX7_shapes 6 (some .int) 1 := ⟨⟨kw 766 (by decide +kernel), kw 767 (by decide +kernel), kw 768 (by decide +kernel), kw 33 (by decide +kernel), kw 769 (by decide +kernel)⟩, ⟨by decide +kernel, by decide +kernel, by decide +kernel⟩⟩
theorem ks_RL_102 : ks_sV RL 102 yX6_rests cX6_rests 6 (some .int) 1 := ⟨⟨kw 466 (by decide +kernel), kw 467 (by decide +kernel), kw 468 (by decide +kernel), kw 25 (by decide +kernel), kw 469 (by decide +kernel)⟩, ⟨by decide +kernel, by decide +kernel, by decide +kernel⟩⟩
theorem ks_RL_105 : ks_sV RL 105 yX7_rests cX7_rests 2 (some .int) 1 := ⟨⟨kw 770 (by decide +kernel), kw 771 (by decide +kernel), kw 772 (by decide +kernel), kw 33 (by decide +kernel), kw 773 (by decide +kernel)⟩, ⟨by decide +kernel, by decide +kernel, by decide +kernel⟩⟩
theorem ks_RL_106 : ks_sV RL 106 yX6_chance cX6_chance 9 (some .int) 5 := ⟨⟨kw 478 (by decide +kernel), kw 479 (by decide +kernel), kw 480 (by decide +kernel), kw 25 (by decide +kernel), kw 481 (by decide +kernel)⟩, ⟨by decide +kernel, by decide +kernel, by decide +kernel⟩⟩
theorem ks_RL_110 : ks_sV RL 110 yX7_chance cX7_chance 11 (some .int) 5 := ⟨⟨kw 782 (by decide +kernel), kw 783 (by decide +kernel), kw 784 (by decide +kernel), kw 33 (by decide +kernel), kw 785 (by decide +kernel)⟩, ⟨by decide +kernel, by decide +kernel, by decide +kernel⟩⟩
theorem ks_RL_113 : ks_sV RL 113 yX6_seed cX6_seed 5 (some .long) 1 := ⟨⟨kw 493 (by decide +kernel), kw 494 (by decide +kernel), kw 495 (by decide +kernel), kw 25 (by decide +kernel), kw 496 (by decide +kernel)⟩, ⟨by decide +kernel, by decide +kernel, by decide +kernel⟩⟩
theorem ks_RL_117 : ks_sV RL 117 yX7_seed cX7_seed 5 (some .long) 1 := ⟨⟨kw 790 (by decide +kernel), kw 791 (by decide +kernel), kw 792 (by decide +kernel), kw 33 (by decide +kernel), kw 793 (by decide +kernel)⟩, ⟨by decide +kernel, by decide +kernel, by decide +kernel⟩⟩
theorem ks_RL_118 : ks_sV RL 118 yX6_rounds cX6_rounds 3 (some .int) 1 := ⟨⟨kw 497 (by decide +kernel), kw 498 (by decide +kernel), kw 499 (by decide +kernel), kw 25 (by decide +kernel), kw 500 (by decide +kernel)⟩, ⟨by decide +kernel, by decide +kernel, by decide +kernel⟩⟩
theorem ks_RL_121 : ks_sV RL 121 yX7_rounds cX7_rounds 4 (some .int) 1 := ⟨⟨kw 794 (by decide +kernel), kw 795 (by decide +kernel), kw 796 (by decide +kernel), kw 33 (by decide +kernel), kw 797 (by decide +kernel)⟩, ⟨by decide +kernel, by decide +kernel, by decide +kernel⟩⟩
theorem ks_RL_122 : ks_sV RL 122 yX6_keep cX6_keep 2 (some .int) 1 := ⟨⟨kw 508 (by decide +kernel), kw 509 (by decide +kernel), kw 510 (by decide +kernel), kw 25 (by decide +kernel), kw 511 (by decide +kernel)⟩, ⟨by decide +kernel, by decide +kernel, by decide +kernel⟩⟩
theorem ks_RL_125 : ks_sV RL 125 yX7_keep cX7_keep 3 (some .int) 1 := ⟨⟨kw 801 (by decide +kernel), kw 802 (by decide +kernel), kw 803 (by decide +kernel), kw 33 (by decide +kernel), kw 804 (by decide +kernel)⟩, ⟨by decide +kernel, by decide +kernel, by decide +kernel⟩⟩
theorem ks_RL_126 : ks_sV RL 126 yX6_again cX6_again 2 (some .int) 1 := ⟨⟨kw 512 (by decide +kernel), kw 513 (by decide +kernel), kw 514 (by decide +kernel), kw 25 (by decide +kernel), kw 515 (by decide +kernel)⟩, ⟨by decide +kernel, by decide +kernel, by decide +kernel⟩⟩
theorem ks_RL_129 : ks_sV RL 129 yX7_again cX7_again 3 (some .int) 1 := ⟨⟨kw 805 (by decide +kernel), kw 806 (by decide +kernel), kw 807 (by decide +kernel), kw 33 (by decide +kernel), kw 808 (by decide +kernel)⟩, ⟨by decide +kernel, by decide +kernel, by decide +kernel⟩⟩
theorem ks_RX0_26 : ks_sS RX0 26 yJ9_floorMod_7cf53 cJ9_floorMod_7cf53 3 (some .int) 2 := ⟨⟨kw 329 (by decide +kernel), kw 278 (by decide +kernel), kw 30 (by decide +kernel), kw 279 (by decide +kernel)⟩, ⟨by decide +kernel, by decide +kernel, by decide +kernel⟩⟩
theorem ks_RX0_32 : ks_sV RX0 32 yX3_copy cX3_copy 2 none 1 := ⟨⟨kw 330 (by decide +kernel), kw 331 (by decide +kernel), kw 332 (by decide +kernel), kw 28 (by decide +kernel), kw 333 (by decide +kernel)⟩, ⟨by decide +kernel, by decide +kernel, by decide +kernel⟩⟩
theorem ks_RX1_26 : ks_sV RX1 26 yX3_copy cX3_copy 2 none 1 := ⟨⟨kw 383 (by decide +kernel), kw 331 (by decide +kernel), kw 332 (by decide +kernel), kw 28 (by decide +kernel), kw 333 (by decide +kernel)⟩, ⟨by decide +kernel, by decide +kernel, by decide +kernel⟩⟩
theorem ks_RX1_30 : ks_sS RX1 30 yX1_mostBelow cX1_mostBelow 6 (some .int) 3 := ⟨⟨kw 384 (by decide +kernel), kw 385 (by decide +kernel), kw 31 (by decide +kernel), kw 386 (by decide +kernel)⟩, ⟨by decide +kernel, by decide +kernel, by decide +kernel⟩⟩
theorem ks_RX1_38 : ks_sV RX1 38 yX1_most cX1_most 4 (some .int) 3 := ⟨⟨kw 379 (by decide +kernel), kw 380 (by decide +kernel), kw 381 (by decide +kernel), kw 31 (by decide +kernel), kw 382 (by decide +kernel)⟩, ⟨by decide +kernel, by decide +kernel, by decide +kernel⟩⟩
theorem ks_RX1_42 : ks_sV RX1 42 yX1_firstTurnTo cX1_firstTurnTo 5 (some .int) 3 := ⟨⟨kw 391 (by decide +kernel), kw 393 (by decide +kernel), kw 4 (by decide +kernel), kw 31 (by decide +kernel), kw 394 (by decide +kernel)⟩, ⟨by decide +kernel, by decide +kernel, by decide +kernel⟩⟩
theorem ks_RX1_46 : ks_sV RX1 46 yX3_take cX3_take 4 (some .int) 2 := ⟨⟨kw 389 (by decide +kernel), kw 335 (by decide +kernel), kw 336 (by decide +kernel), kw 28 (by decide +kernel), kw 337 (by decide +kernel)⟩, ⟨by decide +kernel, by decide +kernel, by decide +kernel⟩⟩
theorem ks_RX1_50 : ks_sV RX1 50 yX3_can cX3_can 3 (some .boolean) 2 := ⟨⟨kw 387 (by decide +kernel), kw 318 (by decide +kernel), kw 319 (by decide +kernel), kw 28 (by decide +kernel), kw 320 (by decide +kernel)⟩, ⟨by decide +kernel, by decide +kernel, by decide +kernel⟩⟩
theorem ks_RX1_54 : ks_sV RX1 54 yX3_gain cX3_gain 2 (some .int) 1 := ⟨⟨kw 388 (by decide +kernel), kw 339 (by decide +kernel), kw 340 (by decide +kernel), kw 28 (by decide +kernel), kw 341 (by decide +kernel)⟩, ⟨by decide +kernel, by decide +kernel, by decide +kernel⟩⟩
theorem ks_RX2_28 : ks_sS RX2 28 yX4_through cX4_through 3 (some .int) 3 := ⟨⟨kw 465 (by decide +kernel), kw 281 (by decide +kernel), kw 27 (by decide +kernel), kw 282 (by decide +kernel)⟩, ⟨by decide +kernel, by decide +kernel, by decide +kernel⟩⟩
theorem ks_RX3_43 : ks_sV RX3 43 yX3_gain cX3_gain 2 (some .int) 1 := ⟨⟨kw 338 (by decide +kernel), kw 339 (by decide +kernel), kw 340 (by decide +kernel), kw 28 (by decide +kernel), kw 341 (by decide +kernel)⟩, ⟨by decide +kernel, by decide +kernel, by decide +kernel⟩⟩
theorem ks_RX3_47 : ks_sV RX3 47 yX3_newsBit cX3_newsBit 1 (some .int) 0 := ⟨⟨kw 342 (by decide +kernel), kw 344 (by decide +kernel), kw 3 (by decide +kernel), kw 28 (by decide +kernel), kw 345 (by decide +kernel)⟩, ⟨by decide +kernel, by decide +kernel, by decide +kernel⟩⟩
theorem ks_RX3_51 : ks_sV RX3 51 yX3_shown cX3_shown 6 (some .int) 3 := ⟨⟨kw 346 (by decide +kernel), kw 310 (by decide +kernel), kw 311 (by decide +kernel), kw 28 (by decide +kernel), kw 312 (by decide +kernel)⟩, ⟨by decide +kernel, by decide +kernel, by decide +kernel⟩⟩
theorem ks_RX4_28 : ks_sV RX4 28 yX5_digitAt cX5_digitAt 2 (some .int) 1 := ⟨⟨kw 261 (by decide +kernel), kw 250 (by decide +kernel), kw 251 (by decide +kernel), kw 26 (by decide +kernel), kw 252 (by decide +kernel)⟩, ⟨by decide +kernel, by decide +kernel, by decide +kernel⟩⟩
theorem ks_RX4_34 : ks_sV RX4 34 yX5_housesTold cX5_housesTold 1 (some .int) 0 := ⟨⟨kw 262 (by decide +kernel), kw 263 (by decide +kernel), kw 264 (by decide +kernel), kw 26 (by decide +kernel), kw 265 (by decide +kernel)⟩, ⟨by decide +kernel, by decide +kernel, by decide +kernel⟩⟩
theorem ks_RX4_44 : ks_sV RX4 44 yX4_newsOf cX4_newsOf 3 (some .int) 2 := ⟨⟨kw 269 (by decide +kernel), kw 270 (by decide +kernel), kw 271 (by decide +kernel), kw 27 (by decide +kernel), kw 272 (by decide +kernel)⟩, ⟨by decide +kernel, by decide +kernel, by decide +kernel⟩⟩
theorem ks_RX4_47 : ks_sS RX4 47 yX4_through cX4_through 3 (some .int) 3 := ⟨⟨kw 280 (by decide +kernel), kw 281 (by decide +kernel), kw 27 (by decide +kernel), kw 282 (by decide +kernel)⟩, ⟨by decide +kernel, by decide +kernel, by decide +kernel⟩⟩
theorem ks_RX4_51 : ks_sV RX4 51 yX4_has cX4_has 2 (some .boolean) 1 := ⟨⟨kw 273 (by decide +kernel), kw 274 (by decide +kernel), kw 275 (by decide +kernel), kw 27 (by decide +kernel), kw 276 (by decide +kernel)⟩, ⟨by decide +kernel, by decide +kernel, by decide +kernel⟩⟩
theorem ks_RX4_55 : ks_sS RX4 55 yJ9_floorMod_7cf53 cJ9_floorMod_7cf53 3 (some .int) 2 := ⟨⟨kw 277 (by decide +kernel), kw 278 (by decide +kernel), kw 30 (by decide +kernel), kw 279 (by decide +kernel)⟩, ⟨by decide +kernel, by decide +kernel, by decide +kernel⟩⟩
theorem ks_RX5_19 : ks_sV RX5 19 yX5_at cX5_at 2 (some .int) 1 := ⟨⟨kw 241 (by decide +kernel), kw 242 (by decide +kernel), kw 243 (by decide +kernel), kw 26 (by decide +kernel), kw 244 (by decide +kernel)⟩, ⟨by decide +kernel, by decide +kernel, by decide +kernel⟩⟩
theorem ks_RX5_23 : ks_sV RX5 23 yX5_fits cX5_fits 4 (some .boolean) 1 := ⟨⟨kw 237 (by decide +kernel), kw 239 (by decide +kernel), kw 0 (by decide +kernel), kw 26 (by decide +kernel), kw 240 (by decide +kernel)⟩, ⟨by decide +kernel, by decide +kernel, by decide +kernel⟩⟩
theorem ks_RX5_27 : ks_sV RX5 27 yX5_isDigit cX5_isDigit 3 (some .boolean) 2 := ⟨⟨kw 245 (by decide +kernel), kw 247 (by decide +kernel), kw 1 (by decide +kernel), kw 26 (by decide +kernel), kw 248 (by decide +kernel)⟩, ⟨by decide +kernel, by decide +kernel, by decide +kernel⟩⟩
theorem ks_RX5_31 : ks_sV RX5 31 yX5_digitAt cX5_digitAt 2 (some .int) 1 := ⟨⟨kw 249 (by decide +kernel), kw 250 (by decide +kernel), kw 251 (by decide +kernel), kw 26 (by decide +kernel), kw 252 (by decide +kernel)⟩, ⟨by decide +kernel, by decide +kernel, by decide +kernel⟩⟩
theorem ks_RX6_54 : ks_sS RX6 54 yX6_newStands cX6_newStands 3 (some (.array (.object "KeyholeNews$Stand"))) 1 := ⟨⟨kw 182 (by decide +kernel), kw 126 (by decide +kernel), kw 25 (by decide +kernel), kw 127 (by decide +kernel)⟩, ⟨by decide +kernel, by decide +kernel, by decide +kernel⟩⟩
theorem ks_RX6_77 : ks_sV RX6 77 yX5_add cX5_add 2 none 1 := ⟨⟨kw 221 (by decide +kernel), kw 222 (by decide +kernel), kw 223 (by decide +kernel), kw 26 (by decide +kernel), kw 224 (by decide +kernel)⟩, ⟨by decide +kernel, by decide +kernel, by decide +kernel⟩⟩
theorem ks_RX6_81 : ks_sV RX6 81 yX5_firstFault cX5_firstFault 2 (some .int) 0 := ⟨⟨kw 233 (by decide +kernel), kw 234 (by decide +kernel), kw 235 (by decide +kernel), kw 26 (by decide +kernel), kw 236 (by decide +kernel)⟩, ⟨by decide +kernel, by decide +kernel, by decide +kernel⟩⟩
theorem ks_RX6_85 : ks_sV RX6 85 yX4_takeFrom cX4_takeFrom 5 none 1 := ⟨⟨kw 257 (by decide +kernel), kw 258 (by decide +kernel), kw 259 (by decide +kernel), kw 27 (by decide +kernel), kw 260 (by decide +kernel)⟩, ⟨by decide +kernel, by decide +kernel, by decide +kernel⟩⟩
theorem ks_RX6_89 : ks_sV RX6 89 yX3_begin cX3_begin 2 none 1 := ⟨⟨kw 283 (by decide +kernel), kw 284 (by decide +kernel), kw 285 (by decide +kernel), kw 28 (by decide +kernel), kw 286 (by decide +kernel)⟩, ⟨by decide +kernel, by decide +kernel, by decide +kernel⟩⟩
theorem ks_RX6_116 : ks_sV RX6 116 yX4_has cX4_has 2 (some .boolean) 1 := ⟨⟨kw 295 (by decide +kernel), kw 274 (by decide +kernel), kw 275 (by decide +kernel), kw 27 (by decide +kernel), kw 276 (by decide +kernel)⟩, ⟨by decide +kernel, by decide +kernel, by decide +kernel⟩⟩
theorem ks_RX6_120 : ks_sV RX6 120 yX4_shapeOf cX4_shapeOf 2 (some .int) 1 := ⟨⟨kw 296 (by decide +kernel), kw 297 (by decide +kernel), kw 298 (by decide +kernel), kw 27 (by decide +kernel), kw 299 (by decide +kernel)⟩, ⟨by decide +kernel, by decide +kernel, by decide +kernel⟩⟩
theorem ks_RX6_124 : ks_sV RX6 124 yX4_newsOf cX4_newsOf 3 (some .int) 2 := ⟨⟨kw 300 (by decide +kernel), kw 270 (by decide +kernel), kw 271 (by decide +kernel), kw 27 (by decide +kernel), kw 272 (by decide +kernel)⟩, ⟨by decide +kernel, by decide +kernel, by decide +kernel⟩⟩
theorem ks_RX6_128 : ks_sV RX6 128 yX3_readOf cX3_readOf 2 (some .int) 1 := ⟨⟨kw 301 (by decide +kernel), kw 302 (by decide +kernel), kw 303 (by decide +kernel), kw 28 (by decide +kernel), kw 304 (by decide +kernel)⟩, ⟨by decide +kernel, by decide +kernel, by decide +kernel⟩⟩
theorem ks_RX6_131 : ks_sV RX6 131 yX3_shown cX3_shown 6 (some .int) 3 := ⟨⟨kw 309 (by decide +kernel), kw 310 (by decide +kernel), kw 311 (by decide +kernel), kw 28 (by decide +kernel), kw 312 (by decide +kernel)⟩, ⟨by decide +kernel, by decide +kernel, by decide +kernel⟩⟩
theorem ks_RX6_135 : ks_sV RX6 135 yX3_can cX3_can 3 (some .boolean) 2 := ⟨⟨kw 317 (by decide +kernel), kw 318 (by decide +kernel), kw 319 (by decide +kernel), kw 28 (by decide +kernel), kw 320 (by decide +kernel)⟩, ⟨by decide +kernel, by decide +kernel, by decide +kernel⟩⟩
theorem ks_RX6_139 : ks_sV RX6 139 yX6_act cX6_act 2 (some .int) 1 := ⟨⟨kw 321 (by decide +kernel), kw 323 (by decide +kernel), kw 2 (by decide +kernel), kw 25 (by decide +kernel), kw 324 (by decide +kernel)⟩, ⟨by decide +kernel, by decide +kernel, by decide +kernel⟩⟩
theorem ks_RX6_142 : ks_sV RX6 142 yX0_remember cX0_remember 2 none 1 := ⟨⟨kw 325 (by decide +kernel), kw 326 (by decide +kernel), kw 327 (by decide +kernel), kw 29 (by decide +kernel), kw 328 (by decide +kernel)⟩, ⟨by decide +kernel, by decide +kernel, by decide +kernel⟩⟩
theorem ks_RX6_146 : ks_sV RX6 146 yX0_takeBack cX0_takeBack 2 none 1 := ⟨⟨kw 367 (by decide +kernel), kw 368 (by decide +kernel), kw 369 (by decide +kernel), kw 29 (by decide +kernel), kw 370 (by decide +kernel)⟩, ⟨by decide +kernel, by decide +kernel, by decide +kernel⟩⟩
theorem ks_RX6_149 : ks_sV RX6 149 yX3_take cX3_take 4 (some .int) 2 := ⟨⟨kw 334 (by decide +kernel), kw 335 (by decide +kernel), kw 336 (by decide +kernel), kw 28 (by decide +kernel), kw 337 (by decide +kernel)⟩, ⟨by decide +kernel, by decide +kernel, by decide +kernel⟩⟩
theorem ks_RX6_153 : ks_sV RX6 153 yX1_bestRow cX1_bestRow 8 (some .int) 3 := ⟨⟨kw 375 (by decide +kernel), kw 376 (by decide +kernel), kw 377 (by decide +kernel), kw 31 (by decide +kernel), kw 378 (by decide +kernel)⟩, ⟨by decide +kernel, by decide +kernel, by decide +kernel⟩⟩
theorem ks_RX6_157 : ks_sV RX6 157 yX1_most cX1_most 4 (some .int) 3 := ⟨⟨kw 395 (by decide +kernel), kw 380 (by decide +kernel), kw 381 (by decide +kernel), kw 31 (by decide +kernel), kw 382 (by decide +kernel)⟩, ⟨by decide +kernel, by decide +kernel, by decide +kernel⟩⟩
theorem ks_RX6_160 : ks_sS RX6 160 yJ6_bitCount_0f7a4 cJ6_bitCount_0f7a4 1 (some .int) 1 := ⟨⟨kw 404 (by decide +kernel), kw 405 (by decide +kernel), kw 34 (by decide +kernel), kw 406 (by decide +kernel)⟩, ⟨by decide +kernel, by decide +kernel, by decide +kernel⟩⟩
theorem ks_RX6_165 : ks_sV RX6 165 yX6_bestWithKeys cX6_bestWithKeys 3 (some .int) 2 := ⟨⟨kw 410 (by decide +kernel), kw 412 (by decide +kernel), kw 5 (by decide +kernel), kw 25 (by decide +kernel), kw 413 (by decide +kernel)⟩, ⟨by decide +kernel, by decide +kernel, by decide +kernel⟩⟩
theorem ks_RX6_168 : ks_sS RX6 168 yX6_isRow cX6_isRow 3 (some .boolean) 2 := ⟨⟨kw 419 (by decide +kernel), kw 420 (by decide +kernel), kw 25 (by decide +kernel), kw 421 (by decide +kernel)⟩, ⟨by decide +kernel, by decide +kernel, by decide +kernel⟩⟩
theorem ks_RX6_172 : ks_sV RX6 172 yX3_copy cX3_copy 2 none 1 := ⟨⟨kw 414 (by decide +kernel), kw 331 (by decide +kernel), kw 332 (by decide +kernel), kw 28 (by decide +kernel), kw 333 (by decide +kernel)⟩, ⟨by decide +kernel, by decide +kernel, by decide +kernel⟩⟩
theorem ks_RX6_175 : ks_sS RX6 175 yX6_figure cX6_figure 5 (some .int) 3 := ⟨⟨kw 425 (by decide +kernel), kw 426 (by decide +kernel), kw 25 (by decide +kernel), kw 427 (by decide +kernel)⟩, ⟨by decide +kernel, by decide +kernel, by decide +kernel⟩⟩
theorem ks_RX6_179 : ks_sS RX6 179 yX6_factorial cX6_factorial 3 (some .int) 1 := ⟨⟨kw 432 (by decide +kernel), kw 433 (by decide +kernel), kw 25 (by decide +kernel), kw 434 (by decide +kernel)⟩, ⟨by decide +kernel, by decide +kernel, by decide +kernel⟩⟩
theorem ks_RX6_182 : ks_sV RX6 182 yX6_bestAmong cX6_bestAmong 2 (some .int) 1 := ⟨⟨kw 435 (by decide +kernel), kw 437 (by decide +kernel), kw 6 (by decide +kernel), kw 25 (by decide +kernel), kw 438 (by decide +kernel)⟩, ⟨by decide +kernel, by decide +kernel, by decide +kernel⟩⟩
theorem ks_RX6_185 : ks_sS RX6 185 yX6_partOf cX6_partOf 4 (some .int) 3 := ⟨⟨kw 439 (by decide +kernel), kw 440 (by decide +kernel), kw 25 (by decide +kernel), kw 441 (by decide +kernel)⟩, ⟨by decide +kernel, by decide +kernel, by decide +kernel⟩⟩
theorem ks_RX6_189 : ks_sV RX6 189 yX2_add cX2_add 5 none 4 := ⟨⟨kw 449 (by decide +kernel), kw 450 (by decide +kernel), kw 451 (by decide +kernel), kw 32 (by decide +kernel), kw 452 (by decide +kernel)⟩, ⟨by decide +kernel, by decide +kernel, by decide +kernel⟩⟩
theorem ks_RX6_192 : ks_sV RX6 192 yX2_allows cX2_allows 4 (some .boolean) 2 := ⟨⟨kw 461 (by decide +kernel), kw 462 (by decide +kernel), kw 463 (by decide +kernel), kw 32 (by decide +kernel), kw 464 (by decide +kernel)⟩, ⟨by decide +kernel, by decide +kernel, by decide +kernel⟩⟩
theorem ks_RX6_195 : ks_sV RX6 195 yX6_isContent cX6_isContent 5 (some .boolean) 2 := ⟨⟨kw 470 (by decide +kernel), kw 472 (by decide +kernel), kw 7 (by decide +kernel), kw 25 (by decide +kernel), kw 473 (by decide +kernel)⟩, ⟨by decide +kernel, by decide +kernel, by decide +kernel⟩⟩
theorem ks_RX6_198 : ks_sV RX6 198 yX6_gatherGains cX6_gatherGains 7 (some .int) 2 := ⟨⟨kw 482 (by decide +kernel), kw 484 (by decide +kernel), kw 9 (by decide +kernel), kw 25 (by decide +kernel), kw 485 (by decide +kernel)⟩, ⟨by decide +kernel, by decide +kernel, by decide +kernel⟩⟩
theorem ks_RX6_201 : ks_sV RX6 201 yX6_joyOf cX6_joyOf 5 (some .int) 2 := ⟨⟨kw 486 (by decide +kernel), kw 488 (by decide +kernel), kw 10 (by decide +kernel), kw 25 (by decide +kernel), kw 489 (by decide +kernel)⟩, ⟨by decide +kernel, by decide +kernel, by decide +kernel⟩⟩
theorem ks_RX6_204 : ks_sS RX6 204 yX6_weightOf cX6_weightOf 4 (some .int) 3 := ⟨⟨kw 490 (by decide +kernel), kw 491 (by decide +kernel), kw 25 (by decide +kernel), kw 492 (by decide +kernel)⟩, ⟨by decide +kernel, by decide +kernel, by decide +kernel⟩⟩
theorem ks_RX6_207 : ks_sS RX6 207 yX6_power cX6_power 4 (some .int) 2 := ⟨⟨kw 422 (by decide +kernel), kw 423 (by decide +kernel), kw 25 (by decide +kernel), kw 424 (by decide +kernel)⟩, ⟨by decide +kernel, by decide +kernel, by decide +kernel⟩⟩
theorem ks_RX6_216 : ks_sV RX6 216 yX6_playRound cX6_playRound 2 none 1 := ⟨⟨kw 504 (by decide +kernel), kw 506 (by decide +kernel), kw 11 (by decide +kernel), kw 25 (by decide +kernel), kw 507 (by decide +kernel)⟩, ⟨by decide +kernel, by decide +kernel, by decide +kernel⟩⟩
theorem ks_RX6_219 : ks_sV RX6 219 yX6_restJoy cX6_restJoy 4 (some .int) 2 := ⟨⟨kw 474 (by decide +kernel), kw 476 (by decide +kernel), kw 8 (by decide +kernel), kw 25 (by decide +kernel), kw 477 (by decide +kernel)⟩, ⟨by decide +kernel, by decide +kernel, by decide +kernel⟩⟩
theorem ks_RX6_222 : ks_sS RX6 222 yX6_commonDivisor cX6_commonDivisor 6 (some .int) 2 := ⟨⟨kw 442 (by decide +kernel), kw 443 (by decide +kernel), kw 25 (by decide +kernel), kw 444 (by decide +kernel)⟩, ⟨by decide +kernel, by decide +kernel, by decide +kernel⟩⟩
theorem ks_RX7_66 : ks_sS RX7 66 yX7_in cX7_in 6 (some .boolean) 3 := ⟨⟨kw 619 (by decide +kernel), kw 620 (by decide +kernel), kw 33 (by decide +kernel), kw 621 (by decide +kernel)⟩, ⟨by decide +kernel, by decide +kernel, by decide +kernel⟩⟩
theorem ks_RX7_78 : ks_sV RX7 78 yX7_figure cX7_figure 2 (some .int) 1 := ⟨⟨kw 634 (by decide +kernel), kw 636 (by decide +kernel), kw 13 (by decide +kernel), kw 33 (by decide +kernel), kw 637 (by decide +kernel)⟩, ⟨by decide +kernel, by decide +kernel, by decide +kernel⟩⟩
theorem ks_RX7_88 : ks_sV RX7 88 yX7_readHouse cX7_readHouse 3 (some .boolean) 0 := ⟨⟨kw 638 (by decide +kernel), kw 640 (by decide +kernel), kw 14 (by decide +kernel), kw 33 (by decide +kernel), kw 641 (by decide +kernel)⟩, ⟨by decide +kernel, by decide +kernel, by decide +kernel⟩⟩
theorem ks_RX7_91 : ks_sV RX7 91 yX7_readStreet cX7_readStreet 1 (some .int) 0 := ⟨⟨kw 630 (by decide +kernel), kw 632 (by decide +kernel), kw 12 (by decide +kernel), kw 33 (by decide +kernel), kw 633 (by decide +kernel)⟩, ⟨by decide +kernel, by decide +kernel, by decide +kernel⟩⟩
theorem ks_RX7_98 : ks_sS RX7 98 yX7_has cX7_has 2 (some .boolean) 2 := ⟨⟨kw 668 (by decide +kernel), kw 669 (by decide +kernel), kw 33 (by decide +kernel), kw 670 (by decide +kernel)⟩, ⟨by decide +kernel, by decide +kernel, by decide +kernel⟩⟩
theorem ks_RX7_102 : ks_sS RX7 102 yX7_showsBy cX7_showsBy 3 (some .int) 3 := ⟨⟨kw 671 (by decide +kernel), kw 672 (by decide +kernel), kw 33 (by decide +kernel), kw 673 (by decide +kernel)⟩, ⟨by decide +kernel, by decide +kernel, by decide +kernel⟩⟩
theorem ks_RX7_109 : ks_sV RX7 109 yX7_noHouse cX7_noHouse 2 (some .boolean) 1 := ⟨⟨kw 654 (by decide +kernel), kw 656 (by decide +kernel), kw 15 (by decide +kernel), kw 33 (by decide +kernel), kw 657 (by decide +kernel)⟩, ⟨by decide +kernel, by decide +kernel, by decide +kernel⟩⟩
theorem ks_RX7_117 : ks_sV RX7 117 yX7_sightOf cX7_sightOf 5 (some .int) 3 := ⟨⟨kw 664 (by decide +kernel), kw 666 (by decide +kernel), kw 16 (by decide +kernel), kw 33 (by decide +kernel), kw 667 (by decide +kernel)⟩, ⟨by decide +kernel, by decide +kernel, by decide +kernel⟩⟩
theorem ks_RX7_121 : ks_sV RX7 121 yX7_can cX7_can 3 (some .boolean) 2 := ⟨⟨kw 678 (by decide +kernel), kw 680 (by decide +kernel), kw 17 (by decide +kernel), kw 33 (by decide +kernel), kw 681 (by decide +kernel)⟩, ⟨by decide +kernel, by decide +kernel, by decide +kernel⟩⟩
theorem ks_RX7_125 : ks_sV RX7 125 yX7_note cX7_note 2 none 0 := ⟨⟨kw 682 (by decide +kernel), kw 684 (by decide +kernel), kw 18 (by decide +kernel), kw 33 (by decide +kernel), kw 685 (by decide +kernel)⟩, ⟨by decide +kernel, by decide +kernel, by decide +kernel⟩⟩
theorem ks_RX7_128 : ks_sV RX7 128 yX7_go cX7_go 6 (some .int) 2 := ⟨⟨kw 686 (by decide +kernel), kw 688 (by decide +kernel), kw 19 (by decide +kernel), kw 33 (by decide +kernel), kw 689 (by decide +kernel)⟩, ⟨by decide +kernel, by decide +kernel, by decide +kernel⟩⟩
theorem ks_RX7_138 : ks_sS RX7 138 yX7_power cX7_power 4 (some .int) 2 := ⟨⟨kw 722 (by decide +kernel), kw 723 (by decide +kernel), kw 33 (by decide +kernel), kw 724 (by decide +kernel)⟩, ⟨by decide +kernel, by decide +kernel, by decide +kernel⟩⟩
theorem ks_RX7_142 : ks_sS RX7 142 yX7_copy cX7_copy 3 none 2 := ⟨⟨kw 715 (by decide +kernel), kw 716 (by decide +kernel), kw 33 (by decide +kernel), kw 717 (by decide +kernel)⟩, ⟨by decide +kernel, by decide +kernel, by decide +kernel⟩⟩
theorem ks_RX7_148 : ks_sV RX7 148 yX7_findBest cX7_findBest 7 none 1 := ⟨⟨kw 718 (by decide +kernel), kw 720 (by decide +kernel), kw 20 (by decide +kernel), kw 33 (by decide +kernel), kw 721 (by decide +kernel)⟩, ⟨by decide +kernel, by decide +kernel, by decide +kernel⟩⟩
theorem ks_RX7_152 : ks_sS RX7 152 yX7_many cX7_many 3 (some .int) 1 := ⟨⟨kw 733 (by decide +kernel), kw 734 (by decide +kernel), kw 33 (by decide +kernel), kw 735 (by decide +kernel)⟩, ⟨by decide +kernel, by decide +kernel, by decide +kernel⟩⟩
theorem ks_RX7_155 : ks_sS RX7 155 yX7_noRow cX7_noRow 5 (some .boolean) 3 := ⟨⟨kw 740 (by decide +kernel), kw 741 (by decide +kernel), kw 33 (by decide +kernel), kw 742 (by decide +kernel)⟩, ⟨by decide +kernel, by decide +kernel, by decide +kernel⟩⟩
theorem ks_RX7_159 : ks_sS RX7 159 yX7_divisor cX7_divisor 5 (some .int) 2 := ⟨⟨kw 753 (by decide +kernel), kw 754 (by decide +kernel), kw 33 (by decide +kernel), kw 755 (by decide +kernel)⟩, ⟨by decide +kernel, by decide +kernel, by decide +kernel⟩⟩
theorem ks_RX7_162 : ks_sS RX7 162 yX7_ways cX7_ways 3 (some .int) 1 := ⟨⟨kw 747 (by decide +kernel), kw 748 (by decide +kernel), kw 33 (by decide +kernel), kw 749 (by decide +kernel)⟩, ⟨by decide +kernel, by decide +kernel, by decide +kernel⟩⟩
theorem ks_RX7_165 : ks_sS RX7 165 yX7_fraction cX7_fraction 4 (some .int) 3 := ⟨⟨kw 750 (by decide +kernel), kw 751 (by decide +kernel), kw 33 (by decide +kernel), kw 752 (by decide +kernel)⟩, ⟨by decide +kernel, by decide +kernel, by decide +kernel⟩⟩
theorem ks_RX7_179 : ks_sV RX7 179 yX7_holds cX7_holds 4 (some .int) 2 := ⟨⟨kw 778 (by decide +kernel), kw 780 (by decide +kernel), kw 22 (by decide +kernel), kw 33 (by decide +kernel), kw 781 (by decide +kernel)⟩, ⟨by decide +kernel, by decide +kernel, by decide +kernel⟩⟩
theorem ks_RX7_182 : ks_sV RX7 182 yX7_findRests cX7_findRests 5 none 0 := ⟨⟨kw 774 (by decide +kernel), kw 776 (by decide +kernel), kw 21 (by decide +kernel), kw 33 (by decide +kernel), kw 777 (by decide +kernel)⟩, ⟨by decide +kernel, by decide +kernel, by decide +kernel⟩⟩
theorem ks_RX7_188 : ks_sV RX7 188 yX7_layLooks cX7_layLooks 7 (some .boolean) 2 := ⟨⟨kw 786 (by decide +kernel), kw 788 (by decide +kernel), kw 23 (by decide +kernel), kw 33 (by decide +kernel), kw 789 (by decide +kernel)⟩, ⟨by decide +kernel, by decide +kernel, by decide +kernel⟩⟩
end
section
/-! THE STANDS of the class -/
theorem kv {base : Nat} {f : Nat → Nat} {x : Int64} {k z a : Nat} (h : f k = a) : ks_v base f x k (0, z) = .int (nI a) := by subst h; rfl
theorem kTab (lo hi : Nat) (hhi : hi < 2147483648) (x : Int32) : (∃ j, lo ≤ j ∧ j ≤ hi ∧ x = nI j) ∨ (x.toInt < lo ∨ (hi : Int) < x.toInt) := by
  by_cases h1 : x.toInt < lo
  · exact Or.inr (Or.inl h1)
  · by_cases h2 : (hi : Int) < x.toInt
    · exact Or.inr (Or.inr h2)
    · refine Or.inl ⟨x.toInt.toNat, by omega, by omega, ?_⟩
      apply Int32.toInt_inj.mp
      rw [nI_toInt (by omega)]
      omega
theorem kOutH {n hi : Nat} (h : n < 2147483648) (h2 : hi < n) : ((hi : Nat) : Int) < (nI n).toInt := by rw [nI_toInt h]; omega
theorem kOutL {n lo : Nat} (h : n < 2147483648) (h2 : n < lo) : (nI n).toInt < ((lo : Nat) : Int) := by rw [nI_toInt h]; omega
theorem k_not {k : Nat} (h : k < 4294967296) : nI k ^^^ (-1) = nI (4294967295 - k) := by
  apply Int32.toBitVec_inj.mp
  show BitVec.ofNat 32 k ^^^ BitVec.allOnes 32 = BitVec.ofNat 32 (4294967295 - k)
  rw [BitVec.xor_allOnes]
  apply BitVec.eq_of_toNat_eq
  rw [BitVec.toNat_not, BitVec.toNat_ofNat, BitVec.toNat_ofNat]
  omega
def bt (x : Nat → Nat) : Nat := 1 <<< (x 0 * 3 + x 2 % 3)
def sgv (S x : Nat → Nat) (h t : Nat) : Nat := if ((x 4 &&& (4294967295 - x 5)) >>> h) &&& 1 = 0 then 0 else S (h * 6 + t % 6)
def gn (S x : Nat → Nat) : Nat := if x 6 &&& bt x = 0 then sgv S x (x 0) (x 2) else 0
def cn (n : Nat) (x : Nat → Nat) (t : Nat) : Nat := if t = 0 then (if 0 < x 0 then 1 else 0) else if t = 1 then (if x 0 + 1 < n then 1 else 0) else if t = 2 then (if x 0 < n ∧ 0 < x 1 then 1 else 0) else 1
def tk (S x : Nat → Nat) (t : Nat) : Nat → Nat :=
  if t = 0 then up1 (up1 x 0 (x 0 - 1)) 2 (x 2 + 1) else if t = 1 then up1 (up1 x 0 (x 0 + 1)) 2 (x 2 + 1) else if t = 2 then up1 (up1 (up1 (up1 x 1 (x 1 - 1)) 3 (x 3 + gn S x)) 6 (x 6 ||| bt x)) 2 (x 2 + 1) else up1 x 2 (x 2 + 1)
theorem tk_0 (S x : Nat → Nat) : tk S x 0 = up1 (up1 x 0 (x 0 - 1)) 2 (x 2 + 1) := rfl
theorem tk_1 (S x : Nat → Nat) : tk S x 1 = up1 (up1 x 0 (x 0 + 1)) 2 (x 2 + 1) := rfl
theorem tk_2 (S x : Nat → Nat) : tk S x 2 = up1 (up1 (up1 (up1 x 1 (x 1 - 1)) 3 (x 3 + gn S x)) 6 (x 6 ||| bt x)) 2 (x 2 + 1) := rfl
theorem tk_3 (S x : Nat → Nat) : tk S x 3 = up1 x 2 (x 2 + 1) := rfl
def cp7 (x y : Nat → Nat) : Nat → Nat := fun k => if k < 7 then y k else x k
theorem k_and31 {a b : Nat} (h : a < 2147483648) : a &&& b < 2147483648 := Nat.lt_of_le_of_lt Nat.and_le_left h
theorem k_and1 (a : Nat) : a &&& 1 < 2147483648 := Nat.lt_of_le_of_lt Nat.and_le_right (by decide)
theorem c_newsBit (l : Launch) (G : ks_G) (base : Nat) (Mx : ks_M) (Lx : ks_L) (i : Nat) (hs : SH[i]? = some kSt) (a t : Nat) (h0 : Mx i 0 = a) (h2 : Mx i 2 = t) (ha : a < 6) (ht : t < 2147483648) : KI l G base 0 yX3_newsBit cX3_newsBit 1 .int [.ref (base + i)] SH Mx Lx (fun r M1 L1 => r = nI (1 <<< (a * 3 + t % 3)) ∧ M1 = Mx ∧ L1 = Lx) := by
  refine k_meti (by decide) (Nat.le_of_ble_eq_true rfl) (fun K hK X Y => ?_)
  subst hK
  refine r_pl [(0, .ref (base + i))] ⟨rfl, trivial⟩ ?_
  refine r_iconst (q := 1) (v := nI 1) X kc_1 dX3_newsBit_0 rfl ?_
  refine r_aload_n (q := 2) (i := 0) (j := 0) (x := base + i) X rfl rfl dX3_newsBit_1 rfl ?_
  refine r_getf (q := 5) (i := i) (v := .int (nI (a))) X fk_X3_9 hs rfl (kv h0) dX3_newsBit_2 rfl ?_
  refine r_iconst (q := 6) (v := nI 3) X kc_3 dX3_newsBit_5 rfl ?_
  refine r_imulR (q := 7) (x := nI (a)) (y := nI 3) (v := nI (a * 3)) X (pk_mul _ _) dX3_newsBit_6 rfl ?_
  refine r_aload_n (q := 8) (i := 0) (j := 0) (x := base + i) X rfl rfl dX3_newsBit_7 rfl ?_
  refine r_getf (q := 11) (i := i) (v := .int (nI (t))) X fk_X3_18 hs rfl (kv h2) dX3_newsBit_8 rfl ?_
  refine r_iconst (q := 12) (v := nI 3) X kc_3 dX3_newsBit_11 rfl ?_
  refine r_iremR (q := 13) (x := nI (t)) (y := nI 3) (v := nI (t % 3)) X (nI_ne0 (by omega) (by omega)) (pk_rem (by omega) (by omega) (by omega)) dX3_newsBit_12 rfl ?_
  refine r_iaddR (q := 14) (x := nI (a * 3)) (y := nI (t % 3)) (v := nI ((a * 3) + (t % 3))) X (nI_add _ _) dX3_newsBit_13 rfl ?_
  refine r_ishlR (q := 15) (x := nI 1) (y := nI ((a * 3) + (t % 3))) (v := nI (1 <<< ((a * 3) + (t % 3)))) X (k_shl (by omega)) dX3_newsBit_14 rfl ?_
  refine r_iret X Y ?_ dX3_newsBit_15
  exact ⟨rfl, rfl, rfl⟩
theorem c_copy (l : Launch) (G : ks_G) (base : Nat) (Mx : ks_M) (Lx : ks_L) (i : Nat) (hs : SH[i]? = some kSt) (j : Nat) (hj : SH[j]? = some kSt) (hne : j ≠ i) : KV l G base 0 0 0 yX3_copy cX3_copy 2 [.ref (base + i), .ref (base + j)] SH SH Mx Lx (fun M1 L1 => M1 = sr Mx i (cp7 (Mx i) (Mx j)) ∧ L1 = Lx) := by
  refine k_metv (by decide) (Nat.le_of_ble_eq_true rfl) (fun K hK hRm X Y => ?_)
  subst hK
  refine r_pl [(0, .ref (base + i)), (1, .ref (base + j))] ⟨rfl, rfl, trivial⟩ ?_
  refine r_aload_n (q := 1) (i := 0) (j := 0) (x := base + i) X rfl rfl dX3_copy_0 rfl ?_
  refine r_aload_n (q := 2) (i := 1) (j := 1) (x := base + j) X rfl rfl dX3_copy_1 rfl ?_
  refine r_getf (q := 5) (i := j) (v := .int (nI (Mx j 0))) X fk_X3_9 hj rfl rfl dX3_copy_2 rfl ?_
  refine r_puti (q := 8) (i := i) (n := Mx j 0) X fk_X3_9 kp_X3_0 hs rfl dX3_copy_5 rfl ?_
  refine r_aload_n (q := 9) (i := 0) (j := 0) (x := base + i) X rfl rfl dX3_copy_8 rfl ?_
  refine r_aload_n (q := 10) (i := 1) (j := 1) (x := base + j) X rfl rfl dX3_copy_9 rfl ?_
  refine r_getf (q := 13) (i := j) (v := .int (nI (Mx j 1))) X fk_X3_15 hj rfl (by simp [ks_v, up2, hne]) dX3_copy_10 rfl ?_
  refine r_puti (q := 16) (i := i) (n := Mx j 1) X fk_X3_15 kp_X3_1 hs rfl dX3_copy_13 rfl ?_
  refine r_aload_n (q := 17) (i := 0) (j := 0) (x := base + i) X rfl rfl dX3_copy_16 rfl ?_
  refine r_aload_n (q := 18) (i := 1) (j := 1) (x := base + j) X rfl rfl dX3_copy_17 rfl ?_
  refine r_getf (q := 21) (i := j) (v := .int (nI (Mx j 2))) X fk_X3_18 hj rfl (by simp [ks_v, up2, hne]) dX3_copy_18 rfl ?_
  refine r_puti (q := 24) (i := i) (n := Mx j 2) X fk_X3_18 kp_X3_2 hs rfl dX3_copy_21 rfl ?_
  refine r_aload_n (q := 25) (i := 0) (j := 0) (x := base + i) X rfl rfl dX3_copy_24 rfl ?_
  refine r_aload_n (q := 26) (i := 1) (j := 1) (x := base + j) X rfl rfl dX3_copy_25 rfl ?_
  refine r_getf (q := 29) (i := j) (v := .int (nI (Mx j 3))) X fk_X3_21 hj rfl (by simp [ks_v, up2, hne]) dX3_copy_26 rfl ?_
  refine r_puti (q := 32) (i := i) (n := Mx j 3) X fk_X3_21 kp_X3_3 hs rfl dX3_copy_29 rfl ?_
  refine r_aload_n (q := 33) (i := 0) (j := 0) (x := base + i) X rfl rfl dX3_copy_32 rfl ?_
  refine r_aload_n (q := 34) (i := 1) (j := 1) (x := base + j) X rfl rfl dX3_copy_33 rfl ?_
  refine r_getf (q := 37) (i := j) (v := .int (nI (Mx j 4))) X fk_X3_24 hj rfl (by simp [ks_v, up2, hne]) dX3_copy_34 rfl ?_
  refine r_puti (q := 40) (i := i) (n := Mx j 4) X fk_X3_24 kp_X3_4 hs rfl dX3_copy_37 rfl ?_
  refine r_aload_n (q := 41) (i := 0) (j := 0) (x := base + i) X rfl rfl dX3_copy_40 rfl ?_
  refine r_aload_n (q := 42) (i := 1) (j := 1) (x := base + j) X rfl rfl dX3_copy_41 rfl ?_
  refine r_getf (q := 45) (i := j) (v := .int (nI (Mx j 5))) X fk_X3_27 hj rfl (by simp [ks_v, up2, hne]) dX3_copy_42 rfl ?_
  refine r_puti (q := 48) (i := i) (n := Mx j 5) X fk_X3_27 kp_X3_5 hs rfl dX3_copy_45 rfl ?_
  refine r_aload_n (q := 49) (i := 0) (j := 0) (x := base + i) X rfl rfl dX3_copy_48 rfl ?_
  refine r_aload_n (q := 50) (i := 1) (j := 1) (x := base + j) X rfl rfl dX3_copy_49 rfl ?_
  refine r_getf (q := 53) (i := j) (v := .int (nI (Mx j 6))) X fk_X3_30 hj rfl (by simp [ks_v, up2, hne]) dX3_copy_50 rfl ?_
  refine r_puti (q := 56) (i := i) (n := Mx j 6) X fk_X3_30 kp_X3_6 hs rfl dX3_copy_53 rfl ?_
  refine r_vret X Y ?_ dX3_copy_56
  refine ⟨?_, rfl⟩
  funext a b
  by_cases ha : a = i
  · subst ha
    rw [sr_s]
    simp only [up2, cp7, true_and]
    by_cases h0 : b = 0 <;> by_cases h1 : b = 1 <;> by_cases h2 : b = 2 <;> by_cases h3 : b = 3 <;> by_cases h4 : b = 4 <;> by_cases h5 : b = 5 <;> by_cases h6 : b = 6 <;> simp [*] <;> omega
  · rw [sr_o ha]
    simp [up2, ha]
theorem c_readOf (l : Launch) (G : ks_G) (base : Nat) (Mx : ks_M) (Lx : ks_L) (i : Nat) (hs : SH[i]? = some kSt) (h : Nat) (hh : h < 6) (h6 : Mx i 6 < 2147483648) : KI l G base 0 yX3_readOf cX3_readOf 2 .int [.ref (base + i), .int (nI (h))] SH Mx Lx (fun r M1 L1 => r = nI ((Mx i 6) >>> (h * 3) &&& 7) ∧ M1 = Mx ∧ L1 = Lx) := by
  refine k_meti (by decide) (Nat.le_of_ble_eq_true rfl) (fun K hK X Y => ?_)
  subst hK
  refine r_pl [(0, .ref (base + i)), (1, .int (nI (h)))] ⟨rfl, rfl, trivial⟩ ?_
  refine r_aload_n (q := 1) (i := 0) (j := 0) (x := base + i) X rfl rfl dX3_readOf_0 rfl ?_
  refine r_getf (q := 4) (i := i) (v := .int (nI (Mx i 6))) X fk_X3_30 hs rfl rfl dX3_readOf_1 rfl ?_
  refine r_iload_n (q := 5) (i := 1) (j := 1) (x := nI (h)) X rfl rfl dX3_readOf_4 rfl ?_
  refine r_iconst (q := 6) (v := nI 3) X kc_3 dX3_readOf_5 rfl ?_
  refine r_imulR (q := 7) (x := nI (h)) (y := nI 3) (v := nI (h * 3)) X (pk_mul _ _) dX3_readOf_6 rfl ?_
  refine r_ishrR (q := 8) (x := nI (Mx i 6)) (y := nI (h * 3)) (v := nI ((Mx i 6) >>> (h * 3))) X (k_shr h6 (by omega)) dX3_readOf_7 rfl ?_
  refine r_bipush (q := 10) (v := nI 7) X kb_7 dX3_readOf_8 rfl ?_
  refine r_iandR (q := 11) (x := nI ((Mx i 6) >>> (h * 3))) (y := nI 7) (v := nI (((Mx i 6) >>> (h * 3)) &&& 7)) X (fa_and _ _) dX3_readOf_10 rfl ?_
  refine r_iret X Y ?_ dX3_readOf_11
  exact ⟨rfl, rfl, rfl⟩
theorem c_shown (l : Launch) (G : ks_G) (base : Nat) (Mx : ks_M) (Lx : ks_L) (i : Nat) (hs : SH[i]? = some kSt) (h t : Nat) (hh : h < 6) (ht : t < 2147483648) (h4 : Mx i 4 < 2147483648) (h5 : Mx i 5 < 2147483648) : KI l G base 0 yX3_shown cX3_shown 6 .int [.ref (base + i), .ref (base + 3), .int (nI (h)), .int (nI (t))] SH Mx Lx (fun r M1 L1 => r = nI (sgv (Mx 6) (Mx i) h t) ∧ M1 = Mx ∧ L1 = Lx) := by
  refine k_meti (by decide) (Nat.le_of_ble_eq_true rfl) (fun K hK X Y => ?_)
  subst hK
  refine r_pl [(0, .ref (base + i)), (1, .ref (base + 3)), (2, .int (nI (h))), (3, .int (nI (t)))] ⟨rfl, rfl, rfl, rfl, trivial⟩ ?_
  refine r_aload_n (q := 1) (i := 0) (j := 0) (x := base + i) X rfl rfl dX3_shown_0 rfl ?_
  refine r_getf (q := 4) (i := i) (v := .int (nI (Mx i 4))) X fk_X3_24 hs rfl rfl dX3_shown_1 rfl ?_
  refine r_aload_n (q := 5) (i := 0) (j := 0) (x := base + i) X rfl rfl dX3_shown_4 rfl ?_
  refine r_getf (q := 8) (i := i) (v := .int (nI (Mx i 5))) X fk_X3_27 hs rfl rfl dX3_shown_5 rfl ?_
  refine r_iconst (q := 9) (v := (-1)) X kc_m1 dX3_shown_8 rfl ?_
  refine r_ixorR (q := 10) (x := nI (Mx i 5)) (y := (-1)) (v := nI (4294967295 - Mx i 5)) X (k_not (by omega)) dX3_shown_9 rfl ?_
  refine r_iandR (q := 11) (x := nI (Mx i 4)) (y := nI (4294967295 - Mx i 5)) (v := nI ((Mx i 4) &&& (4294967295 - Mx i 5))) X (fa_and _ _) dX3_shown_10 rfl ?_
  refine r_iload_n (q := 12) (i := 2) (j := 2) (x := nI (h)) X rfl rfl dX3_shown_11 rfl ?_
  refine r_ishrR (q := 13) (x := nI ((Mx i 4) &&& (4294967295 - Mx i 5))) (y := nI (h)) (v := nI (((Mx i 4) &&& (4294967295 - Mx i 5)) >>> h)) X (k_shr (k_and31 h4) (by omega)) dX3_shown_12 rfl ?_
  refine r_iconst (q := 14) (v := nI 1) X kc_1 dX3_shown_13 rfl ?_
  refine r_iandR (q := 15) (x := nI (((Mx i 4) &&& (4294967295 - Mx i 5)) >>> h)) (y := nI 1) (v := nI ((((Mx i 4) &&& (4294967295 - Mx i 5)) >>> h) &&& 1)) X (fa_and _ _) dX3_shown_14 rfl ?_
  have hb := k_and1 ((Mx i 4 &&& (4294967295 - Mx i 5)) >>> h)
  refine r_if_eq (q := 18) (tgt := 22) X (by decide) dX3_shown_15 rfl (fun c15 => ?_) (fun c15 => ?_)
  · replace c15 : ((((Mx i 4) &&& (4294967295 - Mx i 5)) >>> h) &&& 1) = 0 := (kI_eq0 (by omega)).mp c15
    refine r_iconst (q := 23) (v := nI 0) X kc_0 dX3_shown_22 rfl ?_
    refine r_istore (q := 25) (i := 4) X (Nat.le_of_ble_eq_true rfl) dX3_shown_23 rfl ?_
    refine r_iload_n (q := 26) (i := 2) (j := 2) (x := nI (h)) X rfl rfl dX3_shown_25 rfl ?_
    refine r_bipush (q := 28) (v := nI 6) X kb_6 dX3_shown_26 rfl ?_
    refine r_imulR (q := 29) (x := nI (h)) (y := nI 6) (v := nI (h * 6)) X (pk_mul _ _) dX3_shown_28 rfl ?_
    refine r_iload_n (q := 30) (i := 3) (j := 3) (x := nI (t)) X rfl rfl dX3_shown_29 rfl ?_
    refine r_bipush (q := 32) (v := nI 6) X kb_6 dX3_shown_30 rfl ?_
    refine r_iremR (q := 33) (x := nI (t)) (y := nI 6) (v := nI (t % 6)) X (by decide) (pk_rem (by omega) (by omega) (by omega)) dX3_shown_32 rfl ?_
    refine r_iaddR (q := 34) (x := nI (h * 6)) (y := nI (t % 6)) (v := nI ((h * 6) + (t % 6))) X (nI_add _ _) dX3_shown_33 rfl ?_
    refine r_istore (q := 36) (i := 5) X (Nat.le_of_ble_eq_true rfl) dX3_shown_34 rfl ?_
    refine r_iload (q := 38) (i := 4) (x := nI 0) X rfl dX3_shown_36 rfl ?_
    refine r_if_eq (q := 41) (tgt := 66) X (by decide) dX3_shown_38 rfl (fun _ => ?_) (fun c => absurd c (by decide))
    refine r_iconst (q := 67) (v := nI 0) X kc_0 dX3_shown_66 rfl ?_
    refine r_iret X Y ?_ dX3_shown_67
    exact ⟨by first | (exfalso; omega) | (unfold sgv; rw [if_pos (by assumption)]) | (unfold sgv; rw [if_neg (by assumption)]), rfl, rfl⟩
  · replace c15 : ¬ ((((Mx i 4) &&& (4294967295 - Mx i 5)) >>> h) &&& 1) = 0 := fun h => (c15 ((kI_eq0 (by omega)).mpr h))
    refine r_iconst (q := 19) (v := nI 1) X kc_1 dX3_shown_18 rfl ?_
    refine r_goto (tgt := 23) X (by decide) dX3_shown_19 ?_
    refine r_istore (q := 25) (i := 4) X (Nat.le_of_ble_eq_true rfl) dX3_shown_23 rfl ?_
    refine r_iload_n (q := 26) (i := 2) (j := 2) (x := nI (h)) X rfl rfl dX3_shown_25 rfl ?_
    refine r_bipush (q := 28) (v := nI 6) X kb_6 dX3_shown_26 rfl ?_
    refine r_imulR (q := 29) (x := nI (h)) (y := nI 6) (v := nI (h * 6)) X (pk_mul _ _) dX3_shown_28 rfl ?_
    refine r_iload_n (q := 30) (i := 3) (j := 3) (x := nI (t)) X rfl rfl dX3_shown_29 rfl ?_
    refine r_bipush (q := 32) (v := nI 6) X kb_6 dX3_shown_30 rfl ?_
    refine r_iremR (q := 33) (x := nI (t)) (y := nI 6) (v := nI (t % 6)) X (by decide) (pk_rem (by omega) (by omega) (by omega)) dX3_shown_32 rfl ?_
    refine r_iaddR (q := 34) (x := nI (h * 6)) (y := nI (t % 6)) (v := nI ((h * 6) + (t % 6))) X (nI_add _ _) dX3_shown_33 rfl ?_
    refine r_istore (q := 36) (i := 5) X (Nat.le_of_ble_eq_true rfl) dX3_shown_34 rfl ?_
    refine r_iload (q := 38) (i := 4) (x := nI 1) X rfl dX3_shown_36 rfl ?_
    refine r_if_eq (q := 41) (tgt := 66) X (by decide) dX3_shown_38 rfl (fun c => absurd c (by decide)) (fun _ => ?_)
    refine r_iload (q := 43) (i := 5) (x := nI ((h * 6) + (t % 6))) X rfl dX3_shown_41 rfl ?_
    refine r_if_lt (q := 46) (tgt := 66) X (by decide) dX3_shown_43 rfl (fun c43 => ?_) (fun c43 => ?_)
    · replace c43 : ((h * 6) + (t % 6)) < 0 := (kI_lt0 (by omega)).mp c43
      refine r_iconst (q := 67) (v := nI 0) X kc_0 dX3_shown_66 rfl ?_
      refine r_iret X Y ?_ dX3_shown_67
      exact ⟨by first | (exfalso; omega) | (unfold sgv; rw [if_pos (by assumption)]) | (unfold sgv; rw [if_neg (by assumption)]), rfl, rfl⟩
    · replace c43 : ¬ ((h * 6) + (t % 6)) < 0 := fun h => c43 ((kI_lt0 (by omega)).mpr h)
      refine r_iload (q := 48) (i := 5) (x := nI ((h * 6) + (t % 6))) X rfl dX3_shown_46 rfl ?_
      refine r_aload_n (q := 49) (i := 1) (j := 1) (x := base + 3) X rfl rfl dX3_shown_48 rfl ?_
      refine r_getf (q := 52) (i := 3) (v := .ref (base + 6)) X fk_X3_39 kh_3 rfl rfl dX3_shown_49 rfl ?_
      refine r_alen (q := 53) (i := 6) (n := 36) X kh_6 dX3_shown_52 rfl ?_
      refine r_icmp_ge (q := 56) (tgt := 66) X (by decide) dX3_shown_53 rfl (fun c53 => ?_) (fun c53 => ?_)
      · replace c53 : 36 ≤ ((h * 6) + (t % 6)) := (nI_leI (by omega) (by omega)).mp c53
        refine r_iconst (q := 67) (v := nI 0) X kc_0 dX3_shown_66 rfl ?_
        refine r_iret X Y ?_ dX3_shown_67
        exact ⟨by first | (exfalso; omega) | (unfold sgv; rw [if_pos (by assumption)]) | (unfold sgv; rw [if_neg (by assumption)]), rfl, rfl⟩
      · replace c53 : ¬ 36 ≤ ((h * 6) + (t % 6)) := fun h => c53 ((nI_leI (by omega) (by omega)).mpr h)
        refine r_aload_n (q := 57) (i := 1) (j := 1) (x := base + 3) X rfl rfl dX3_shown_56 rfl ?_
        refine r_getf (q := 60) (i := 3) (v := .ref (base + 6)) X fk_X3_39 kh_3 rfl rfl dX3_shown_57 rfl ?_
        refine r_iload (q := 62) (i := 5) (x := nI ((h * 6) + (t % 6))) X rfl dX3_shown_60 rfl ?_
        refine r_iald (q := 63) (i := 6) (j := (h * 6) + (t % 6)) (v := Mx 6 ((h * 6) + (t % 6))) X kh_6 (by omega) (Nat.le_of_ble_eq_true rfl) rfl dX3_shown_62 rfl ?_
        refine r_goto (tgt := 67) X (by decide) dX3_shown_63 ?_
        refine r_iret X Y ?_ dX3_shown_67
        exact ⟨by first | (exfalso; omega) | (unfold sgv; rw [if_pos (by assumption)]) | (unfold sgv; rw [if_neg (by assumption)]), rfl, rfl⟩
theorem c_can (l : Launch) (G : ks_G) (base : Nat) (Mx : ks_M) (Lx : ks_L) (i : Nat) (hs : SH[i]? = some kSt) (t : Nat) (ht : t < 2147483648) (h0 : Mx i 0 < 1000) (h1 : Mx i 1 < 1000) (hc : Mx 3 3 < 1000) : KI l G base 0 yX3_can cX3_can 3 .boolean [.ref (base + i), .ref (base + 3), .int (nI (t))] SH Mx Lx (fun r M1 L1 => r = nI (cn (Mx 3 3) (Mx i) t) ∧ M1 = Mx ∧ L1 = Lx) := by
  refine k_meti (by decide) (Nat.le_of_ble_eq_true rfl) (fun K hK X Y => ?_)
  subst hK
  refine r_pl [(0, .ref (base + i)), (1, .ref (base + 3)), (2, .int (nI (t)))] ⟨rfl, rfl, rfl, trivial⟩ ?_
  refine r_iload_n (q := 1) (i := 2) (j := 2) (x := nI (t)) X rfl rfl dX3_can_0 rfl ?_
  rcases (show t = 0 ∨ t = 1 ∨ t = 2 ∨ 2 < t by omega) with rfl | rfl | rfl | hn1
  · refine r_tableIn (x := nI 0) (off := 27) (tgt := 28) X (by decide) (by decide) (by decide) (by decide) dX3_can_1 ?_
    refine r_aload_n (q := 29) (i := 0) (j := 0) (x := base + i) X rfl rfl dX3_can_28 rfl ?_
    refine r_getf (q := 32) (i := i) (v := .int (nI (Mx i 0))) X fk_X3_9 hs rfl rfl dX3_can_29 rfl ?_
    refine r_if_le (q := 35) (tgt := 39) X (by decide) dX3_can_32 rfl (fun c32 => ?_) (fun c32 => ?_)
    · replace c32 : (Mx i 0) ≤ 0 := (kI_le0 (by omega)).mp c32
      refine r_iconst (q := 40) (v := nI 0) X kc_0 dX3_can_39 rfl ?_
      refine r_zret X Y (by decide) ?_ dX3_can_40
      exact ⟨by unfold cn; (repeat' split) <;> first | rfl | (exfalso; omega), rfl, rfl⟩
    · replace c32 : ¬ (Mx i 0) ≤ 0 := fun h => c32 ((kI_le0 (by omega)).mpr h)
      refine r_iconst (q := 36) (v := nI 1) X kc_1 dX3_can_35 rfl ?_
      refine r_goto (tgt := 40) X (by decide) dX3_can_36 ?_
      refine r_zret X Y (by decide) ?_ dX3_can_40
      exact ⟨by unfold cn; (repeat' split) <;> first | rfl | (exfalso; omega), rfl, rfl⟩
  · refine r_tableIn (x := nI 1) (off := 40) (tgt := 41) X (by decide) (by decide) (by decide) (by decide) dX3_can_1 ?_
    refine r_aload_n (q := 42) (i := 0) (j := 0) (x := base + i) X rfl rfl dX3_can_41 rfl ?_
    refine r_getf (q := 45) (i := i) (v := .int (nI (Mx i 0))) X fk_X3_9 hs rfl rfl dX3_can_42 rfl ?_
    refine r_iconst (q := 46) (v := nI 1) X kc_1 dX3_can_45 rfl ?_
    refine r_iaddR (q := 47) (x := nI (Mx i 0)) (y := nI 1) (v := nI ((Mx i 0) + 1)) X (nI_add _ _) dX3_can_46 rfl ?_
    refine r_aload_n (q := 48) (i := 1) (j := 1) (x := base + 3) X rfl rfl dX3_can_47 rfl ?_
    refine r_getf (q := 51) (i := 3) (v := .int (nI (Mx 3 3))) X fk_X3_36 kh_3 rfl rfl dX3_can_48 rfl ?_
    refine r_icmp_ge (q := 54) (tgt := 58) X (by decide) dX3_can_51 rfl (fun c51 => ?_) (fun c51 => ?_)
    · replace c51 : (Mx 3 3) ≤ ((Mx i 0) + 1) := (nI_leI (by omega) (by omega)).mp c51
      refine r_iconst (q := 59) (v := nI 0) X kc_0 dX3_can_58 rfl ?_
      refine r_zret X Y (by decide) ?_ dX3_can_59
      exact ⟨by unfold cn; (repeat' split) <;> first | rfl | (exfalso; omega), rfl, rfl⟩
    · replace c51 : ¬ (Mx 3 3) ≤ ((Mx i 0) + 1) := fun h => c51 ((nI_leI (by omega) (by omega)).mpr h)
      refine r_iconst (q := 55) (v := nI 1) X kc_1 dX3_can_54 rfl ?_
      refine r_goto (tgt := 59) X (by decide) dX3_can_55 ?_
      refine r_zret X Y (by decide) ?_ dX3_can_59
      exact ⟨by unfold cn; (repeat' split) <;> first | rfl | (exfalso; omega), rfl, rfl⟩
  · refine r_tableIn (x := nI 2) (off := 59) (tgt := 60) X (by decide) (by decide) (by decide) (by decide) dX3_can_1 ?_
    refine r_aload_n (q := 61) (i := 0) (j := 0) (x := base + i) X rfl rfl dX3_can_60 rfl ?_
    refine r_getf (q := 64) (i := i) (v := .int (nI (Mx i 0))) X fk_X3_9 hs rfl rfl dX3_can_61 rfl ?_
    refine r_aload_n (q := 65) (i := 1) (j := 1) (x := base + 3) X rfl rfl dX3_can_64 rfl ?_
    refine r_getf (q := 68) (i := 3) (v := .int (nI (Mx 3 3))) X fk_X3_36 kh_3 rfl rfl dX3_can_65 rfl ?_
    refine r_icmp_ge (q := 71) (tgt := 82) X (by decide) dX3_can_68 rfl (fun c68 => ?_) (fun c68 => ?_)
    · replace c68 : (Mx 3 3) ≤ (Mx i 0) := (nI_leI (by omega) (by omega)).mp c68
      refine r_iconst (q := 83) (v := nI 0) X kc_0 dX3_can_82 rfl ?_
      refine r_zret X Y (by decide) ?_ dX3_can_83
      exact ⟨by unfold cn; (repeat' split) <;> first | rfl | (exfalso; omega), rfl, rfl⟩
    · replace c68 : ¬ (Mx 3 3) ≤ (Mx i 0) := fun h => c68 ((nI_leI (by omega) (by omega)).mpr h)
      refine r_aload_n (q := 72) (i := 0) (j := 0) (x := base + i) X rfl rfl dX3_can_71 rfl ?_
      refine r_getf (q := 75) (i := i) (v := .int (nI (Mx i 1))) X fk_X3_15 hs rfl rfl dX3_can_72 rfl ?_
      refine r_if_le (q := 78) (tgt := 82) X (by decide) dX3_can_75 rfl (fun c75 => ?_) (fun c75 => ?_)
      · replace c75 : (Mx i 1) ≤ 0 := (kI_le0 (by omega)).mp c75
        refine r_iconst (q := 83) (v := nI 0) X kc_0 dX3_can_82 rfl ?_
        refine r_zret X Y (by decide) ?_ dX3_can_83
        exact ⟨by unfold cn; (repeat' split) <;> first | rfl | (exfalso; omega), rfl, rfl⟩
      · replace c75 : ¬ (Mx i 1) ≤ 0 := fun h => c75 ((kI_le0 (by omega)).mpr h)
        refine r_iconst (q := 79) (v := nI 1) X kc_1 dX3_can_78 rfl ?_
        refine r_goto (tgt := 83) X (by decide) dX3_can_79 ?_
        refine r_zret X Y (by decide) ?_ dX3_can_83
        exact ⟨by unfold cn; (repeat' split) <;> first | rfl | (exfalso; omega), rfl, rfl⟩
  · refine r_tableOut (tgt := 84) X (Or.inr (kOutH (by omega) (by omega))) (by decide) dX3_can_1 ?_
    refine r_iconst (q := 85) (v := nI 1) X kc_1 dX3_can_84 rfl ?_
    refine r_zret X Y (by decide) ?_ dX3_can_85
    exact ⟨by unfold cn; (repeat' split) <;> first | rfl | (exfalso; omega), rfl, rfl⟩
theorem c_gain (l : Launch) (G : ks_G) (base : Nat) (Mx : ks_M) (Lx : ks_L) (i : Nat) (hs : SH[i]? = some kSt) (h0 : Mx i 0 < 6) (h2 : Mx i 2 < 2147483648) (h4 : Mx i 4 < 2147483648) (h5 : Mx i 5 < 2147483648) (h6 : Mx i 6 < 2147483648) : KI l G base 1 yX3_gain cX3_gain 2 .int [.ref (base + i), .ref (base + 3)] SH Mx Lx (fun r M1 L1 => r = nI (gn (Mx 6) (Mx i)) ∧ M1 = Mx ∧ L1 = Lx) := by
  refine k_meti (by decide) (Nat.le_of_ble_eq_true rfl) (fun K hK X Y => ?_)
  subst hK
  refine r_pl [(0, .ref (base + i)), (1, .ref (base + 3))] ⟨rfl, rfl, trivial⟩ ?_
  refine r_aload_n (q := 1) (i := 0) (j := 0) (x := base + i) X rfl rfl dX3_gain_0 rfl ?_
  refine r_getf (q := 4) (i := i) (v := .int (nI (Mx i 6))) X fk_X3_30 hs rfl rfl dX3_gain_1 rfl ?_
  refine r_aload_n (q := 5) (i := 0) (j := 0) (x := base + i) X rfl rfl dX3_gain_4 rfl ?_
  refine r_callVi (q := 8) X (c_newsBit K.2.1 G base Mx Lx i hs _ _ rfl rfl (by omega) (by omega)) hs rfl ks_RX3_47 (by decide) (by decide) ⟨Nat.zero_le _, Nat.zero_le _⟩ rfl (Nat.le_of_ble_eq_true rfl) dX3_gain_5 rfl (fun r M1 L1 hp => ?_)
  obtain ⟨e1, e2, e3⟩ := hp
  subst e1
  replace e2 := e2.symm
  subst e2
  replace e3 := e3.symm
  subst e3
  refine r_iandR (q := 9) (x := nI (Mx i 6)) (y := nI (bt (Mx i))) (v := nI ((Mx i 6) &&& (bt (Mx i)))) X (fa_and _ _) dX3_gain_8 rfl ?_
  have hb := k_and31 (b := bt (Mx i)) h6
  refine r_if_eq (q := 12) (tgt := 16) X (by decide) dX3_gain_9 rfl (fun c9 => ?_) (fun c9 => ?_)
  · replace c9 : ((Mx i 6) &&& (bt (Mx i))) = 0 := (kI_eq0 (by omega)).mp c9
    refine r_aload_n (q := 17) (i := 0) (j := 0) (x := base + i) X rfl rfl dX3_gain_16 rfl ?_
    refine r_aload_n (q := 18) (i := 1) (j := 1) (x := base + 3) X rfl rfl dX3_gain_17 rfl ?_
    refine r_aload_n (q := 19) (i := 0) (j := 0) (x := base + i) X rfl rfl dX3_gain_18 rfl ?_
    refine r_getf (q := 22) (i := i) (v := .int (nI (Mx i 0))) X fk_X3_9 hs rfl rfl dX3_gain_19 rfl ?_
    refine r_aload_n (q := 23) (i := 0) (j := 0) (x := base + i) X rfl rfl dX3_gain_22 rfl ?_
    refine r_getf (q := 26) (i := i) (v := .int (nI (Mx i 2))) X fk_X3_18 hs rfl rfl dX3_gain_23 rfl ?_
    refine r_callVi (q := 29) X (c_shown K.2.1 G base Mx Lx i hs _ _ (by omega) (by omega) h4 h5) hs rfl ks_RX3_51 (by decide) (by decide) ⟨Nat.zero_le _, Nat.zero_le _⟩ rfl (Nat.le_of_ble_eq_true rfl) dX3_gain_26 rfl (fun r M1 L1 hp => ?_)
    obtain ⟨e1, e2, e3⟩ := hp
    subst e1
    replace e2 := e2.symm
    subst e2
    replace e3 := e3.symm
    subst e3
    refine r_iret X Y ?_ dX3_gain_29
    exact ⟨by first | (exfalso; omega) | (unfold gn; rw [if_pos (by assumption)]) | (unfold gn; rw [if_neg (by assumption)]), rfl, rfl⟩
  · replace c9 : ¬ ((Mx i 6) &&& (bt (Mx i))) = 0 := fun h => (c9 ((kI_eq0 (by omega)).mpr h))
    refine r_iconst (q := 13) (v := nI 0) X kc_0 dX3_gain_12 rfl ?_
    refine r_goto (tgt := 29) X (by decide) dX3_gain_13 ?_
    refine r_iret X Y ?_ dX3_gain_29
    exact ⟨by first | (exfalso; omega) | (unfold gn; rw [if_pos (by assumption)]) | (unfold gn; rw [if_neg (by assumption)]), rfl, rfl⟩
theorem c_take (l : Launch) (G : ks_G) (base : Nat) (Mx : ks_M) (Lx : ks_L) (i : Nat) (hs : SH[i]? = some kSt) (t : Nat) (ht : t < 4) (h0 : Mx i 0 < 6) (h2 : Mx i 2 < 2147483648) (h4 : Mx i 4 < 2147483648) (h5 : Mx i 5 < 2147483648) (h6 : Mx i 6 < 2147483648) (hc0 : t = 0 → 0 < Mx i 0) (hc2 : t = 2 → 0 < Mx i 1) : KI l G base 2 yX3_take cX3_take 4 .int [.ref (base + i), .ref (base + 3), .int (nI (t))] SH Mx Lx (fun r M1 L1 => r = nI (if t = 2 then gn (Mx 6) (Mx i) else 0) ∧ M1 = sr Mx i (tk (Mx 6) (Mx i) t) ∧ L1 = Lx) := by
  refine k_meti (by decide) (Nat.le_of_ble_eq_true rfl) (fun K hK X Y => ?_)
  subst hK
  refine r_pl [(0, .ref (base + i)), (1, .ref (base + 3)), (2, .int (nI (t)))] ⟨rfl, rfl, rfl, trivial⟩ ?_
  refine r_iconst (q := 1) (v := nI 0) X kc_0 dX3_take_0 rfl ?_
  refine r_istore_n (q := 2) (i := 3) (j := 3) X rfl (Nat.le_of_ble_eq_true rfl) dX3_take_1 rfl ?_
  refine r_iload_n (q := 3) (i := 2) (j := 2) (x := nI (t)) X rfl rfl dX3_take_2 rfl ?_
  refine r_if_ne (q := 6) (tgt := 19) X (by decide) dX3_take_3 rfl (fun c3 => ?_) (fun c3 => ?_)
  · replace c3 : ¬ t = 0 := fun h => c3 ((kI_eq0 (by omega)).mpr h)
    refine r_iload_n (q := 20) (i := 2) (j := 2) (x := nI (t)) X rfl rfl dX3_take_19 rfl ?_
    refine r_iconst (q := 21) (v := nI 1) X kc_1 dX3_take_20 rfl ?_
    refine r_icmp_ne (q := 24) (tgt := 37) X (by decide) dX3_take_21 rfl (fun c21 => ?_) (fun c21 => ?_)
    · replace c21 : ¬ t = 1 := fun h => c21 ((kI_eq (by omega) (by omega)).mpr h)
      refine r_iload_n (q := 38) (i := 2) (j := 2) (x := nI (t)) X rfl rfl dX3_take_37 rfl ?_
      refine r_iconst (q := 39) (v := nI 2) X kc_2 dX3_take_38 rfl ?_
      refine r_icmp_ne (q := 42) (tgt := 81) X (by decide) dX3_take_39 rfl (fun c39 => ?_) (fun c39 => ?_)
      · replace c39 : ¬ t = 2 := fun h => c39 ((kI_eq (by omega) (by omega)).mpr h)
        refine r_aload_n (q := 82) (i := 0) (j := 0) (x := base + i) X rfl rfl dX3_take_81 rfl ?_
        refine r_dup (q := 83) X rfl dX3_take_82 rfl ?_
        refine r_getf (q := 86) (i := i) (v := .int (nI (Mx i 2))) X fk_X3_18 hs rfl rfl dX3_take_83 rfl ?_
        refine r_iconst (q := 87) (v := nI 1) X kc_1 dX3_take_86 rfl ?_
        refine r_iaddR (q := 88) (x := nI (Mx i 2)) (y := nI 1) (v := nI ((Mx i 2) + 1)) X (nI_add _ _) dX3_take_87 rfl ?_
        refine r_puti (q := 91) (i := i) (n := (Mx i 2) + 1) X fk_X3_18 kp_X3_2 hs rfl dX3_take_88 rfl ?_
        refine r_iload_n (q := 92) (i := 3) (j := 3) (x := nI 0) X rfl rfl dX3_take_91 rfl ?_
        refine r_iret X Y ?_ dX3_take_92
        obtain ⟨t0, ht0⟩ : ∃ t0, t = t0 := ⟨_, rfl⟩
        rcases (show t = 0 ∨ t = 1 ∨ t = 2 ∨ t = 3 by omega) with hh | hh | hh | hh <;> first | (exfalso; omega) | skip
        all_goals subst hh
        all_goals refine ⟨by first | rfl | simp, ?_, rfl⟩
        all_goals first | rw [tk_0] | rw [tk_1] | rw [tk_2] | rw [tk_3]
        all_goals funext a b
        all_goals by_cases ha : a = i <;> simp [up2, sr, up1, bt, ha]
      · replace c39 : t = 2 := (kI_eq (by omega) (by omega)).mp c39
        refine r_aload_n (q := 43) (i := 0) (j := 0) (x := base + i) X rfl rfl dX3_take_42 rfl ?_
        refine r_aload_n (q := 44) (i := 1) (j := 1) (x := base + 3) X rfl rfl dX3_take_43 rfl ?_
        refine r_callVi (q := 47) X (c_gain K.2.1 G base Mx Lx i hs h0 h2 h4 h5 h6) hs rfl ks_RX3_43 (by decide) (by decide) ⟨Nat.zero_le _, Nat.zero_le _⟩ rfl (Nat.le_of_ble_eq_true rfl) dX3_take_44 rfl (fun r M1 L1 hp => ?_)
        obtain ⟨e1, e2, e3⟩ := hp
        subst e1
        replace e2 := e2.symm
        subst e2
        replace e3 := e3.symm
        subst e3
        refine r_istore_n (q := 48) (i := 3) (j := 3) X rfl (Nat.le_of_ble_eq_true rfl) dX3_take_47 rfl ?_
        refine r_aload_n (q := 49) (i := 0) (j := 0) (x := base + i) X rfl rfl dX3_take_48 rfl ?_
        refine r_dup (q := 50) X rfl dX3_take_49 rfl ?_
        refine r_getf (q := 53) (i := i) (v := .int (nI (Mx i 1))) X fk_X3_15 hs rfl rfl dX3_take_50 rfl ?_
        refine r_iconst (q := 54) (v := nI 1) X kc_1 dX3_take_53 rfl ?_
        refine r_isubR (q := 55) (x := nI (Mx i 1)) (y := nI 1) (v := nI ((Mx i 1) - 1)) X (pk_sub (by omega)) dX3_take_54 rfl ?_
        refine r_puti (q := 58) (i := i) (n := (Mx i 1) - 1) X fk_X3_15 kp_X3_1 hs rfl dX3_take_55 rfl ?_
        refine r_aload_n (q := 59) (i := 0) (j := 0) (x := base + i) X rfl rfl dX3_take_58 rfl ?_
        refine r_dup (q := 60) X rfl dX3_take_59 rfl ?_
        refine r_getf (q := 63) (i := i) (v := .int (nI (Mx i 3))) X fk_X3_21 hs rfl (by simp [ks_v, up2]) dX3_take_60 rfl ?_
        refine r_iload_n (q := 64) (i := 3) (j := 3) (x := nI (gn (Mx 6) (Mx i))) X rfl rfl dX3_take_63 rfl ?_
        refine r_iaddR (q := 65) (x := nI (Mx i 3)) (y := nI (gn (Mx 6) (Mx i))) (v := nI ((Mx i 3) + (gn (Mx 6) (Mx i)))) X (nI_add _ _) dX3_take_64 rfl ?_
        refine r_puti (q := 68) (i := i) (n := (Mx i 3) + (gn (Mx 6) (Mx i))) X fk_X3_21 kp_X3_3 hs rfl dX3_take_65 rfl ?_
        refine r_aload_n (q := 69) (i := 0) (j := 0) (x := base + i) X rfl rfl dX3_take_68 rfl ?_
        refine r_dup (q := 70) X rfl dX3_take_69 rfl ?_
        refine r_getf (q := 73) (i := i) (v := .int (nI (Mx i 6))) X fk_X3_30 hs rfl (by simp [ks_v, up2]) dX3_take_70 rfl ?_
        refine r_aload_n (q := 74) (i := 0) (j := 0) (x := base + i) X rfl rfl dX3_take_73 rfl ?_
        refine r_callVi (q := 77) X (c_newsBit K.2.1 G base _ Lx i hs (Mx i 0) (Mx i 2) (by simp [up2]) (by simp [up2]) (by omega) (by omega)) hs rfl ks_RX3_47 (by decide) (by decide) ⟨Nat.zero_le _, Nat.zero_le _⟩ rfl (Nat.le_of_ble_eq_true rfl) dX3_take_74 rfl (fun r M1 L1 hp => ?_)
        obtain ⟨e1, e2, e3⟩ := hp
        subst e1
        replace e2 := e2.symm
        subst e2
        replace e3 := e3.symm
        subst e3
        refine r_iorR (q := 78) (x := nI (Mx i 6)) (y := nI (1 <<< (Mx i 0 * 3 + Mx i 2 % 3))) (v := nI ((Mx i 6) ||| (1 <<< (Mx i 0 * 3 + Mx i 2 % 3)))) X (fa_or _ _) dX3_take_77 rfl ?_
        refine r_puti (q := 81) (i := i) (n := (Mx i 6) ||| (1 <<< (Mx i 0 * 3 + Mx i 2 % 3))) X fk_X3_30 kp_X3_6 hs rfl dX3_take_78 rfl ?_
        refine r_aload_n (q := 82) (i := 0) (j := 0) (x := base + i) X rfl rfl dX3_take_81 rfl ?_
        refine r_dup (q := 83) X rfl dX3_take_82 rfl ?_
        refine r_getf (q := 86) (i := i) (v := .int (nI (Mx i 2))) X fk_X3_18 hs rfl (by simp [ks_v, up2]) dX3_take_83 rfl ?_
        refine r_iconst (q := 87) (v := nI 1) X kc_1 dX3_take_86 rfl ?_
        refine r_iaddR (q := 88) (x := nI (Mx i 2)) (y := nI 1) (v := nI ((Mx i 2) + 1)) X (nI_add _ _) dX3_take_87 rfl ?_
        refine r_puti (q := 91) (i := i) (n := (Mx i 2) + 1) X fk_X3_18 kp_X3_2 hs rfl dX3_take_88 rfl ?_
        refine r_iload_n (q := 92) (i := 3) (j := 3) (x := nI (gn (Mx 6) (Mx i))) X rfl rfl dX3_take_91 rfl ?_
        refine r_iret X Y ?_ dX3_take_92
        obtain ⟨t0, ht0⟩ : ∃ t0, t = t0 := ⟨_, rfl⟩
        rcases (show t = 0 ∨ t = 1 ∨ t = 2 ∨ t = 3 by omega) with hh | hh | hh | hh <;> first | (exfalso; omega) | skip
        all_goals subst hh
        all_goals refine ⟨by first | rfl | simp, ?_, rfl⟩
        all_goals first | rw [tk_0] | rw [tk_1] | rw [tk_2] | rw [tk_3]
        all_goals funext a b
        all_goals by_cases ha : a = i <;> simp [up2, sr, up1, bt, ha]
    · replace c21 : t = 1 := (kI_eq (by omega) (by omega)).mp c21
      refine r_aload_n (q := 25) (i := 0) (j := 0) (x := base + i) X rfl rfl dX3_take_24 rfl ?_
      refine r_dup (q := 26) X rfl dX3_take_25 rfl ?_
      refine r_getf (q := 29) (i := i) (v := .int (nI (Mx i 0))) X fk_X3_9 hs rfl rfl dX3_take_26 rfl ?_
      refine r_iconst (q := 30) (v := nI 1) X kc_1 dX3_take_29 rfl ?_
      refine r_iaddR (q := 31) (x := nI (Mx i 0)) (y := nI 1) (v := nI ((Mx i 0) + 1)) X (nI_add _ _) dX3_take_30 rfl ?_
      refine r_puti (q := 34) (i := i) (n := (Mx i 0) + 1) X fk_X3_9 kp_X3_0 hs rfl dX3_take_31 rfl ?_
      refine r_goto (tgt := 81) X (by decide) dX3_take_34 ?_
      refine r_aload_n (q := 82) (i := 0) (j := 0) (x := base + i) X rfl rfl dX3_take_81 rfl ?_
      refine r_dup (q := 83) X rfl dX3_take_82 rfl ?_
      refine r_getf (q := 86) (i := i) (v := .int (nI (Mx i 2))) X fk_X3_18 hs rfl (by simp [ks_v, up2]) dX3_take_83 rfl ?_
      refine r_iconst (q := 87) (v := nI 1) X kc_1 dX3_take_86 rfl ?_
      refine r_iaddR (q := 88) (x := nI (Mx i 2)) (y := nI 1) (v := nI ((Mx i 2) + 1)) X (nI_add _ _) dX3_take_87 rfl ?_
      refine r_puti (q := 91) (i := i) (n := (Mx i 2) + 1) X fk_X3_18 kp_X3_2 hs rfl dX3_take_88 rfl ?_
      refine r_iload_n (q := 92) (i := 3) (j := 3) (x := nI 0) X rfl rfl dX3_take_91 rfl ?_
      refine r_iret X Y ?_ dX3_take_92
      obtain ⟨t0, ht0⟩ : ∃ t0, t = t0 := ⟨_, rfl⟩
      rcases (show t = 0 ∨ t = 1 ∨ t = 2 ∨ t = 3 by omega) with hh | hh | hh | hh <;> first | (exfalso; omega) | skip
      all_goals subst hh
      all_goals refine ⟨by first | rfl | simp, ?_, rfl⟩
      all_goals first | rw [tk_0] | rw [tk_1] | rw [tk_2] | rw [tk_3]
      all_goals funext a b
      all_goals by_cases ha : a = i <;> simp [up2, sr, up1, bt, ha]
  · replace c3 : t = 0 := (kI_eq0 (by omega)).mp c3
    refine r_aload_n (q := 7) (i := 0) (j := 0) (x := base + i) X rfl rfl dX3_take_6 rfl ?_
    refine r_dup (q := 8) X rfl dX3_take_7 rfl ?_
    refine r_getf (q := 11) (i := i) (v := .int (nI (Mx i 0))) X fk_X3_9 hs rfl rfl dX3_take_8 rfl ?_
    refine r_iconst (q := 12) (v := nI 1) X kc_1 dX3_take_11 rfl ?_
    refine r_isubR (q := 13) (x := nI (Mx i 0)) (y := nI 1) (v := nI ((Mx i 0) - 1)) X (pk_sub (by omega)) dX3_take_12 rfl ?_
    refine r_puti (q := 16) (i := i) (n := (Mx i 0) - 1) X fk_X3_9 kp_X3_0 hs rfl dX3_take_13 rfl ?_
    refine r_goto (tgt := 81) X (by decide) dX3_take_16 ?_
    refine r_aload_n (q := 82) (i := 0) (j := 0) (x := base + i) X rfl rfl dX3_take_81 rfl ?_
    refine r_dup (q := 83) X rfl dX3_take_82 rfl ?_
    refine r_getf (q := 86) (i := i) (v := .int (nI (Mx i 2))) X fk_X3_18 hs rfl (by simp [ks_v, up2]) dX3_take_83 rfl ?_
    refine r_iconst (q := 87) (v := nI 1) X kc_1 dX3_take_86 rfl ?_
    refine r_iaddR (q := 88) (x := nI (Mx i 2)) (y := nI 1) (v := nI ((Mx i 2) + 1)) X (nI_add _ _) dX3_take_87 rfl ?_
    refine r_puti (q := 91) (i := i) (n := (Mx i 2) + 1) X fk_X3_18 kp_X3_2 hs rfl dX3_take_88 rfl ?_
    refine r_iload_n (q := 92) (i := 3) (j := 3) (x := nI 0) X rfl rfl dX3_take_91 rfl ?_
    refine r_iret X Y ?_ dX3_take_92
    obtain ⟨t0, ht0⟩ : ∃ t0, t = t0 := ⟨_, rfl⟩
    rcases (show t = 0 ∨ t = 1 ∨ t = 2 ∨ t = 3 by omega) with hh | hh | hh | hh <;> first | (exfalso; omega) | skip
    all_goals subst hh
    all_goals refine ⟨by first | rfl | simp, ?_, rfl⟩
    all_goals first | rw [tk_0] | rw [tk_1] | rw [tk_2] | rw [tk_3]
    all_goals funext a b
    all_goals by_cases ha : a = i <;> simp [up2, sr, up1, bt, ha]
end
section
/-! LEAVES: arithmetic, copies -/
theorem fa_lt (a b : Int32) : a < b ↔ a.toInt < b.toInt := Int32.lt_iff_toInt_lt
theorem fa_le (a b : Int32) : a ≤ b ↔ a.toInt ≤ b.toInt := Int32.le_iff_toInt_le
theorem fa_le64 (a b : Int64) : a ≤ b ↔ a.toInt ≤ b.toInt := Int64.le_iff_toInt_le
set_option maxHeartbeats 8000000 in
theorem c_power6 (l : Launch) (G : ks_G) (base : Nat) (Mx : ks_M) (Lx : ks_L) (a n : Nat) (hn : n < 1000) : KI l G base 0 yX6_power cX6_power 4 .int [.int (nI (a)), .int (nI (n))] SH Mx Lx (fun rr M1 L1 => rr = nI (a ^ n) ∧ M1 = Mx ∧ L1 = Lx) := by
  refine k_meti (by decide) (Nat.le_of_ble_eq_true rfl) (fun K hK X Y => ?_)
  subst hK
  have lp : ∀ (fuel : Nat) (k : Nat), n - k < fuel → (k ≤ n) → RN K G base 4 0 0 SH Mx Lx 4 [(0, .int (nI (a))), (1, .int (nI (n))), (2, .int (nI (a ^ k))), (3, .int (nI (k)))] [] := by
    intro fuel
    induction fuel with
    | zero => intro k hfu; exact absurd hfu (Nat.not_lt_zero _)
    | succ fuel ih =>
      intro k hfu hk
      refine r_iload_n (q := 5) (i := 3) (j := 3) (x := nI (k)) X rfl rfl dX6_power_4 rfl ?_
      refine r_iload_n (q := 6) (i := 1) (j := 1) (x := nI (n)) X rfl rfl dX6_power_5 rfl ?_
      refine r_icmp_ge (q := 9) (tgt := 19) X (by decide) dX6_power_6 rfl (fun c6 => ?_) (fun c6 => ?_)
      · replace c6 : n ≤ k := (nI_leI (by omega) (by omega)).mp c6
        refine r_iload_n (q := 20) (i := 2) (j := 2) (x := nI (a ^ k)) X rfl rfl dX6_power_19 rfl ?_
        refine r_iret X Y ?_ dX6_power_20
        exact ⟨by rw [show k = n by omega], rfl, rfl⟩
      · replace c6 : ¬ n ≤ k := fun h => c6 ((nI_leI (by omega) (by omega)).mpr h)
        refine r_iload_n (q := 10) (i := 2) (j := 2) (x := nI (a ^ k)) X rfl rfl dX6_power_9 rfl ?_
        refine r_iload_n (q := 11) (i := 0) (j := 0) (x := nI (a)) X rfl rfl dX6_power_10 rfl ?_
        refine r_imulR (q := 12) (x := nI (a ^ k)) (y := nI (a)) (v := nI ((a ^ k) * a)) X (pk_mul _ _) dX6_power_11 rfl ?_
        refine r_istore_n (q := 13) (i := 2) (j := 2) X rfl (Nat.le_of_ble_eq_true rfl) dX6_power_12 rfl ?_
        refine r_iinc (q := 16) (i := 3) (x := nI (k)) (v := nI (k + 1)) X rfl (Nat.le_of_ble_eq_true rfl) (kinc 1 rfl) dX6_power_13 rfl ?_
        refine r_goto (tgt := 4) X (by decide) dX6_power_16 ?_
        refine r_pl [(0, .int (nI (a))), (1, .int (nI (n))), (2, .int (nI (a ^ (k + 1)))), (3, .int (nI (k + 1)))] ⟨rfl, rfl, rfl, rfl, trivial⟩ ?_
        exact ih (k + 1) (by omega) (by omega)
  refine r_pl [(0, .int (nI (a))), (1, .int (nI (n)))] ⟨rfl, rfl, trivial⟩ ?_
  refine r_iconst (q := 1) (v := nI 1) X kc_1 dX6_power_0 rfl ?_
  refine r_istore_n (q := 2) (i := 2) (j := 2) X rfl (Nat.le_of_ble_eq_true rfl) dX6_power_1 rfl ?_
  refine r_iconst (q := 3) (v := nI 0) X kc_0 dX6_power_2 rfl ?_
  refine r_istore_n (q := 4) (i := 3) (j := 3) X rfl (Nat.le_of_ble_eq_true rfl) dX6_power_3 rfl ?_
  refine r_pl [(0, .int (nI (a))), (1, .int (nI (n))), (2, .int (nI (a ^ 0))), (3, .int (nI (0)))] ⟨rfl, rfl, rfl, rfl, trivial⟩ ?_
  exact lp (n + 1) 0 (by omega) (by omega)
set_option maxHeartbeats 8000000 in
theorem c_power7 (l : Launch) (G : ks_G) (base : Nat) (Mx : ks_M) (Lx : ks_L) (a n : Nat) (hn : n < 1000) : KI l G base 0 yX7_power cX7_power 4 .int [.int (nI (a)), .int (nI (n))] SH Mx Lx (fun rr M1 L1 => rr = nI (a ^ n) ∧ M1 = Mx ∧ L1 = Lx) := by
  refine k_meti (by decide) (Nat.le_of_ble_eq_true rfl) (fun K hK X Y => ?_)
  subst hK
  have lp : ∀ (fuel : Nat) (k : Nat), n - k < fuel → (k ≤ n) → RN K G base 4 0 0 SH Mx Lx 4 [(0, .int (nI (a))), (1, .int (nI (n))), (2, .int (nI (a ^ k))), (3, .int (nI (k)))] [] := by
    intro fuel
    induction fuel with
    | zero => intro k hfu; exact absurd hfu (Nat.not_lt_zero _)
    | succ fuel ih =>
      intro k hfu hk
      refine r_iload_n (q := 5) (i := 3) (j := 3) (x := nI (k)) X rfl rfl dX7_power_4 rfl ?_
      refine r_iload_n (q := 6) (i := 1) (j := 1) (x := nI (n)) X rfl rfl dX7_power_5 rfl ?_
      refine r_icmp_ge (q := 9) (tgt := 19) X (by decide) dX7_power_6 rfl (fun c6 => ?_) (fun c6 => ?_)
      · replace c6 : n ≤ k := (nI_leI (by omega) (by omega)).mp c6
        refine r_iload_n (q := 20) (i := 2) (j := 2) (x := nI (a ^ k)) X rfl rfl dX7_power_19 rfl ?_
        refine r_iret X Y ?_ dX7_power_20
        exact ⟨by rw [show k = n by omega], rfl, rfl⟩
      · replace c6 : ¬ n ≤ k := fun h => c6 ((nI_leI (by omega) (by omega)).mpr h)
        refine r_iload_n (q := 10) (i := 2) (j := 2) (x := nI (a ^ k)) X rfl rfl dX7_power_9 rfl ?_
        refine r_iload_n (q := 11) (i := 0) (j := 0) (x := nI (a)) X rfl rfl dX7_power_10 rfl ?_
        refine r_imulR (q := 12) (x := nI (a ^ k)) (y := nI (a)) (v := nI ((a ^ k) * a)) X (pk_mul _ _) dX7_power_11 rfl ?_
        refine r_istore_n (q := 13) (i := 2) (j := 2) X rfl (Nat.le_of_ble_eq_true rfl) dX7_power_12 rfl ?_
        refine r_iinc (q := 16) (i := 3) (x := nI (k)) (v := nI (k + 1)) X rfl (Nat.le_of_ble_eq_true rfl) (kinc 1 rfl) dX7_power_13 rfl ?_
        refine r_goto (tgt := 4) X (by decide) dX7_power_16 ?_
        refine r_pl [(0, .int (nI (a))), (1, .int (nI (n))), (2, .int (nI (a ^ (k + 1)))), (3, .int (nI (k + 1)))] ⟨rfl, rfl, rfl, rfl, trivial⟩ ?_
        exact ih (k + 1) (by omega) (by omega)
  refine r_pl [(0, .int (nI (a))), (1, .int (nI (n)))] ⟨rfl, rfl, trivial⟩ ?_
  refine r_iconst (q := 1) (v := nI 1) X kc_1 dX7_power_0 rfl ?_
  refine r_istore_n (q := 2) (i := 2) (j := 2) X rfl (Nat.le_of_ble_eq_true rfl) dX7_power_1 rfl ?_
  refine r_iconst (q := 3) (v := nI 0) X kc_0 dX7_power_2 rfl ?_
  refine r_istore_n (q := 4) (i := 3) (j := 3) X rfl (Nat.le_of_ble_eq_true rfl) dX7_power_3 rfl ?_
  refine r_pl [(0, .int (nI (a))), (1, .int (nI (n))), (2, .int (nI (a ^ 0))), (3, .int (nI (0)))] ⟨rfl, rfl, rfl, rfl, trivial⟩ ?_
  exact lp (n + 1) 0 (by omega) (by omega)
def fct : Nat → Nat
  | 0 => 1
  | n + 1 => fct n * (n + 1)
set_option maxHeartbeats 8000000 in
theorem c_fct6 (l : Launch) (G : ks_G) (base : Nat) (Mx : ks_M) (Lx : ks_L) (n : Nat) (hn : n < 1000) : KI l G base 0 yX6_factorial cX6_factorial 3 .int [.int (nI (n))] SH Mx Lx (fun rr M1 L1 => rr = nI (fct n) ∧ M1 = Mx ∧ L1 = Lx) := by
  refine k_meti (by decide) (Nat.le_of_ble_eq_true rfl) (fun K hK X Y => ?_)
  subst hK
  have lp : ∀ (fuel : Nat) (k : Nat), n + 1 - k < fuel → (k ≤ n + 1 ∨ k = 2) → (2 ≤ k) → RN K G base 3 0 0 SH Mx Lx 4 [(0, .int (nI (n))), (1, .int (nI (fct (k - 1)))), (2, .int (nI (k)))] [] := by
    intro fuel
    induction fuel with
    | zero => intro k hfu; exact absurd hfu (Nat.not_lt_zero _)
    | succ fuel ih =>
      intro k hfu hk hk2
      refine r_iload_n (q := 5) (i := 2) (j := 2) (x := nI (k)) X rfl rfl dX6_factorial_4 rfl ?_
      refine r_iload_n (q := 6) (i := 0) (j := 0) (x := nI (n)) X rfl rfl dX6_factorial_5 rfl ?_
      refine r_icmp_gt (q := 9) (tgt := 19) X (by decide) dX6_factorial_6 rfl (fun c6 => ?_) (fun c6 => ?_)
      · replace c6 : n < k := (nI_ltI (by omega) (by omega)).mp c6
        refine r_iload_n (q := 20) (i := 1) (j := 1) (x := nI (fct (k - 1))) X rfl rfl dX6_factorial_19 rfl ?_
        refine r_iret X Y ?_ dX6_factorial_20
        refine ⟨?_, rfl, rfl⟩
        rcases (show k - 1 = n ∨ (n = 0 ∧ k - 1 = 1) by omega) with h9 | ⟨h9, h8⟩
        · rw [h9]
        · rw [h9, h8]; rfl
      · replace c6 : ¬ n < k := fun h => c6 ((nI_ltI (by omega) (by omega)).mpr h)
        refine r_iload_n (q := 10) (i := 1) (j := 1) (x := nI (fct (k - 1))) X rfl rfl dX6_factorial_9 rfl ?_
        refine r_iload_n (q := 11) (i := 2) (j := 2) (x := nI (k)) X rfl rfl dX6_factorial_10 rfl ?_
        refine r_imulR (q := 12) (x := nI (fct (k - 1))) (y := nI (k)) (v := nI ((fct (k - 1)) * k)) X (pk_mul _ _) dX6_factorial_11 rfl ?_
        refine r_istore_n (q := 13) (i := 1) (j := 1) X rfl (Nat.le_of_ble_eq_true rfl) dX6_factorial_12 rfl ?_
        refine r_iinc (q := 16) (i := 2) (x := nI (k)) (v := nI (k + 1)) X rfl (Nat.le_of_ble_eq_true rfl) (kinc 1 rfl) dX6_factorial_13 rfl ?_
        refine r_goto (tgt := 4) X (by decide) dX6_factorial_16 ?_
        obtain ⟨j, rfl⟩ : ∃ j, k = j + 1 := ⟨k - 1, by omega⟩
        refine r_pl [(0, .int (nI (n))), (1, .int (nI (fct (j + 1 + 1 - 1)))), (2, .int (nI (j + 1 + 1)))] ⟨rfl, rfl, rfl, trivial⟩ ?_
        exact ih (j + 1 + 1) (by omega) (by omega) (by omega)
  refine r_pl [(0, .int (nI (n)))] ⟨rfl, trivial⟩ ?_
  refine r_iconst (q := 1) (v := nI 1) X kc_1 dX6_factorial_0 rfl ?_
  refine r_istore_n (q := 2) (i := 1) (j := 1) X rfl (Nat.le_of_ble_eq_true rfl) dX6_factorial_1 rfl ?_
  refine r_iconst (q := 3) (v := nI 2) X kc_2 dX6_factorial_2 rfl ?_
  refine r_istore_n (q := 4) (i := 2) (j := 2) X rfl (Nat.le_of_ble_eq_true rfl) dX6_factorial_3 rfl ?_
  refine r_pl [(0, .int (nI (n))), (1, .int (nI (fct (2 - 1)))), (2, .int (nI (2)))] ⟨rfl, rfl, rfl, trivial⟩ ?_
  exact lp (n + 1) 2 (by omega) (by omega) (by omega)
set_option maxHeartbeats 8000000 in
theorem c_fct7 (l : Launch) (G : ks_G) (base : Nat) (Mx : ks_M) (Lx : ks_L) (n : Nat) (hn : n < 1000) : KI l G base 0 yX7_ways cX7_ways 3 .int [.int (nI (n))] SH Mx Lx (fun rr M1 L1 => rr = nI (fct n) ∧ M1 = Mx ∧ L1 = Lx) := by
  refine k_meti (by decide) (Nat.le_of_ble_eq_true rfl) (fun K hK X Y => ?_)
  subst hK
  have lp : ∀ (fuel : Nat) (k : Nat), n + 1 - k < fuel → (k ≤ n + 1 ∨ k = 2) → (2 ≤ k) → RN K G base 3 0 0 SH Mx Lx 4 [(0, .int (nI (n))), (1, .int (nI (fct (k - 1)))), (2, .int (nI (k)))] [] := by
    intro fuel
    induction fuel with
    | zero => intro k hfu; exact absurd hfu (Nat.not_lt_zero _)
    | succ fuel ih =>
      intro k hfu hk hk2
      refine r_iload_n (q := 5) (i := 2) (j := 2) (x := nI (k)) X rfl rfl dX7_ways_4 rfl ?_
      refine r_iload_n (q := 6) (i := 0) (j := 0) (x := nI (n)) X rfl rfl dX7_ways_5 rfl ?_
      refine r_icmp_gt (q := 9) (tgt := 19) X (by decide) dX7_ways_6 rfl (fun c6 => ?_) (fun c6 => ?_)
      · replace c6 : n < k := (nI_ltI (by omega) (by omega)).mp c6
        refine r_iload_n (q := 20) (i := 1) (j := 1) (x := nI (fct (k - 1))) X rfl rfl dX7_ways_19 rfl ?_
        refine r_iret X Y ?_ dX7_ways_20
        refine ⟨?_, rfl, rfl⟩
        rcases (show k - 1 = n ∨ (n = 0 ∧ k - 1 = 1) by omega) with h9 | ⟨h9, h8⟩
        · rw [h9]
        · rw [h9, h8]; rfl
      · replace c6 : ¬ n < k := fun h => c6 ((nI_ltI (by omega) (by omega)).mpr h)
        refine r_iload_n (q := 10) (i := 1) (j := 1) (x := nI (fct (k - 1))) X rfl rfl dX7_ways_9 rfl ?_
        refine r_iload_n (q := 11) (i := 2) (j := 2) (x := nI (k)) X rfl rfl dX7_ways_10 rfl ?_
        refine r_imulR (q := 12) (x := nI (fct (k - 1))) (y := nI (k)) (v := nI ((fct (k - 1)) * k)) X (pk_mul _ _) dX7_ways_11 rfl ?_
        refine r_istore_n (q := 13) (i := 1) (j := 1) X rfl (Nat.le_of_ble_eq_true rfl) dX7_ways_12 rfl ?_
        refine r_iinc (q := 16) (i := 2) (x := nI (k)) (v := nI (k + 1)) X rfl (Nat.le_of_ble_eq_true rfl) (kinc 1 rfl) dX7_ways_13 rfl ?_
        refine r_goto (tgt := 4) X (by decide) dX7_ways_16 ?_
        obtain ⟨j, rfl⟩ : ∃ j, k = j + 1 := ⟨k - 1, by omega⟩
        refine r_pl [(0, .int (nI (n))), (1, .int (nI (fct (j + 1 + 1 - 1)))), (2, .int (nI (j + 1 + 1)))] ⟨rfl, rfl, rfl, trivial⟩ ?_
        exact ih (j + 1 + 1) (by omega) (by omega) (by omega)
  refine r_pl [(0, .int (nI (n)))] ⟨rfl, trivial⟩ ?_
  refine r_iconst (q := 1) (v := nI 1) X kc_1 dX7_ways_0 rfl ?_
  refine r_istore_n (q := 2) (i := 1) (j := 1) X rfl (Nat.le_of_ble_eq_true rfl) dX7_ways_1 rfl ?_
  refine r_iconst (q := 3) (v := nI 2) X kc_2 dX7_ways_2 rfl ?_
  refine r_istore_n (q := 4) (i := 2) (j := 2) X rfl (Nat.le_of_ble_eq_true rfl) dX7_ways_3 rfl ?_
  refine r_pl [(0, .int (nI (n))), (1, .int (nI (fct (2 - 1)))), (2, .int (nI (2)))] ⟨rfl, rfl, rfl, trivial⟩ ?_
  exact lp (n + 1) 2 (by omega) (by omega) (by omega)
theorem k_metiF {l : Launch} {G : ks_G} {base d : Nat} {y : MethodName} {rt : FieldType} {as : List Value} {sh : List ks_S} {M : ks_M} {L : ks_L} {nL2 : Nat} {cc2 : ByteArray} {post : Int32 → ks_M → ks_L → Prop} (hy : plainFor y = true) (hlen : (lg_sl as).length ≤ nL2) (body : ∀ K : ks_Cx, K.2.1 = l → KX K G base nL2 y.cls cc2 d → KQi K G base sh 0 0 rt post → RN K G base nL2 0 0 sh M L 0 (lv_args 0 as) []) : KI l G base d y cc2 nL2 rt as sh M L post := by
  unfold KI Met
  refine MetFree.of_bodySF (code := cc2) (maxLocals := nL2) (ret := some rt) hy ?_ ?_
  · intro args s m h hn
    obtain ⟨meth, c, h1, h2, h3, h4, h5, h6, -, -⟩ := Cond.code_spec hn (atoms_spec (ws := .code y cc2 nL2 (some rt) :: ks_all) h _ List.mem_cons_self)
    exact ⟨meth, c, h1, h2, h3, h4, h5, h6⟩
  · intro p e s m args below meth c s₁ B hml hv _
    have hh0 : s₁.heap = s.heap := by rw [B.state]; rfl
    obtain ⟨rfl, hR, hK⟩ := hv
    have hts := atoms_spec (ws := .code y cc2 nL2 (some rt) :: ks_all) B.pre
    have h1 := body (p, l, e, ks_rm d 0 0, s, m, as.toArray, below, meth, c, MQ below (ks_Qi G base sh post) as.toArray s 0 0 (ks_A base)) rfl ⟨B.exec, B.bytes, hml, findClass_of_methodNamed B.named, fun w hw => hts w (List.mem_cons_of_mem _ hw), hK, by show base ≤ s.heap.size; rw [hR.2]; exact Nat.le_add_right _ _, Nat.le_refl d, Nat.le_refl (48 * d)⟩ ⟨rfl, B.returns, B.notSynchronized⟩
    have h2 := h1 s.heap [] _ hR va_S.rf (lv_entry as hlen)
    rw [lg_entry_eq]
    obtain ⟨t, a1, o, b1, b2, b3⟩ := h2 s₁ hh0 (Stand.of_body B)
    exact ⟨t, o, a1, b1, b2, ⟨b3.1, b3.2⟩⟩
set_option maxHeartbeats 8000000 in
theorem c_fmod (l : Launch) (G : ks_G) (base : Nat) (Mx : ks_M) (Lx : ks_L) (a b : Nat) (hb : 0 < b) (ha : a < 2147483648) (hb2 : b < 2147483648) : KI l G base 0 yJ9_floorMod_7cf53 cJ9_floorMod_7cf53 3 .int [.int (nI (a)), .int (nI (b))] SH Mx Lx (fun rr M1 L1 => rr = nI (a % b) ∧ M1 = Mx ∧ L1 = Lx) := by
  refine k_metiF (by decide +kernel) (Nat.le_of_ble_eq_true rfl) (fun K hK X Y => ?_)
  subst hK
  refine r_pl [(0, .int (nI (a))), (1, .int (nI (b)))] ⟨rfl, rfl, trivial⟩ ?_
  refine r_iload_n (q := 1) (i := 0) (j := 0) (x := nI (a)) X rfl rfl dJ9_floorMod_7cf53_0 rfl ?_
  refine r_iload_n (q := 2) (i := 1) (j := 1) (x := nI (b)) X rfl rfl dJ9_floorMod_7cf53_1 rfl ?_
  refine r_iremR (q := 3) (x := nI (a)) (y := nI (b)) (v := nI (a % b)) X (nI_ne0 hb (by omega)) (pk_rem (by omega) (by omega) (by omega)) dJ9_floorMod_7cf53_2 rfl ?_
  refine r_istore_n (q := 4) (i := 2) (j := 2) X rfl (Nat.le_of_ble_eq_true rfl) dJ9_floorMod_7cf53_3 rfl ?_
  refine r_iload_n (q := 5) (i := 0) (j := 0) (x := nI (a)) X rfl rfl dJ9_floorMod_7cf53_4 rfl ?_
  refine r_iload_n (q := 6) (i := 1) (j := 1) (x := nI (b)) X rfl rfl dJ9_floorMod_7cf53_5 rfl ?_
  refine r_ixorR (q := 7) (x := nI (a)) (y := nI (b)) (v := nI (a ^^^ b)) X (fb_xorI _ _) dJ9_floorMod_7cf53_6 rfl ?_
  have hxo : a ^^^ b < 2147483648 := Nat.xor_lt_two_pow (n := 31) ha hb2
  refine r_if_ge (q := 10) (tgt := 18) X (by decide) dJ9_floorMod_7cf53_7 rfl (fun c7 => ?_) (fun c7 => ?_)
  · replace c7 : 0 ≤ (a ^^^ b) := (kI_ge0 (by omega)).mp c7
    refine r_iload_n (q := 19) (i := 2) (j := 2) (x := nI (a % b)) X rfl rfl dJ9_floorMod_7cf53_18 rfl ?_
    refine r_iret X Y ?_ dJ9_floorMod_7cf53_19
    exact ⟨rfl, rfl, rfl⟩
  · replace c7 : ¬ 0 ≤ (a ^^^ b) := fun h => c7 ((kI_ge0 (by omega)).mpr h)
    exfalso; omega
set_option maxHeartbeats 8000000 in
theorem c_in (l : Launch) (G : ks_G) (base : Nat) (Mx : ks_M) (Lx : ks_L) (v a b : Int64) : KI l G base 0 yX7_in cX7_in 6 .boolean [.long (v), .long (a), .long (b)] SH Mx Lx (fun rr M1 L1 => (rr = nI 1 ∧ (a ≤ v ∧ v ≤ b) ∧ M1 = Mx ∧ L1 = Lx) ∨ (rr = nI 0 ∧ ¬ (a ≤ v ∧ v ≤ b) ∧ M1 = Mx ∧ L1 = Lx)) := by
  refine k_meti (by decide) (Nat.le_of_ble_eq_true rfl) (fun K hK X Y => ?_)
  subst hK
  refine r_pl [(0, .long (v)), (2, .long (a)), (4, .long (b))] ⟨rfl, rfl, rfl, trivial⟩ ?_
  refine r_lload_n (q := 1) (i := 0) (j := 0) (x := v) X rfl rfl dX7_in_0 rfl ?_
  refine r_lload_n (q := 2) (i := 2) (j := 2) (x := a) X rfl rfl dX7_in_1 rfl ?_
  refine r_lcmp (q := 3) X  dX7_in_2 rfl ?_
  refine r_if_lt (q := 6) (tgt := 17) X (by decide) dX7_in_3 rfl (fun c3 => ?_) (fun c3 => ?_)
  · skip
    refine r_iconst (q := 18) (v := nI 0) X kc_0 dX7_in_17 rfl ?_
    refine r_zret X Y (by decide) ?_ dX7_in_18
    exact Or.inr ⟨rfl, fun h => absurd ((lg_cmp_lt _ _).mp c3) (by rw [Int64.not_lt]; exact h.1), rfl, rfl⟩
  · skip
    refine r_lload_n (q := 7) (i := 0) (j := 0) (x := v) X rfl rfl dX7_in_6 rfl ?_
    refine r_lload (q := 9) (i := 4) (x := b) X rfl dX7_in_7 rfl ?_
    refine r_lcmp (q := 10) X  dX7_in_9 rfl ?_
    refine r_if_gt (q := 13) (tgt := 17) X (by decide) dX7_in_10 rfl (fun c10 => ?_) (fun c10 => ?_)
    · skip
      refine r_iconst (q := 18) (v := nI 0) X kc_0 dX7_in_17 rfl ?_
      refine r_zret X Y (by decide) ?_ dX7_in_18
      exact Or.inr ⟨rfl, fun h => absurd ((lg_cmp_gt _ _).mp c10) (by rw [Int64.not_lt]; exact h.2), rfl, rfl⟩
    · skip
      refine r_iconst (q := 14) (v := nI 1) X kc_1 dX7_in_13 rfl ?_
      refine r_goto (tgt := 18) X (by decide) dX7_in_14 ?_
      refine r_zret X Y (by decide) ?_ dX7_in_18
      refine Or.inl ⟨rfl, ⟨Int64.not_lt.mp (fun h => c3 ((lg_cmp_lt _ _).mpr h)), Int64.not_lt.mp (fun h => c10 ((lg_cmp_gt _ _).mpr h))⟩, rfl, rfl⟩
def hsb (s k : Nat) : Nat := if s >>> k &&& 1 = 1 then 1 else 0
set_option maxHeartbeats 8000000 in
theorem c_has7 (l : Launch) (G : ks_G) (base : Nat) (Mx : ks_M) (Lx : ks_L) (s k : Nat) (h1 : s < 2147483648) (h2 : k < 6) : KI l G base 0 yX7_has cX7_has 2 .boolean [.int (nI (s)), .int (nI (k))] SH Mx Lx (fun rr M1 L1 => rr = nI (hsb s k) ∧ M1 = Mx ∧ L1 = Lx) := by
  refine k_meti (by decide) (Nat.le_of_ble_eq_true rfl) (fun K hK X Y => ?_)
  subst hK
  refine r_pl [(0, .int (nI (s))), (1, .int (nI (k)))] ⟨rfl, rfl, trivial⟩ ?_
  refine r_iload_n (q := 1) (i := 0) (j := 0) (x := nI (s)) X rfl rfl dX7_has_0 rfl ?_
  refine r_iload_n (q := 2) (i := 1) (j := 1) (x := nI (k)) X rfl rfl dX7_has_1 rfl ?_
  refine r_ishrR (q := 3) (x := nI (s)) (y := nI (k)) (v := nI (s >>> k)) X (k_shr h1 (by omega)) dX7_has_2 rfl ?_
  refine r_iconst (q := 4) (v := nI 1) X kc_1 dX7_has_3 rfl ?_
  refine r_iandR (q := 5) (x := nI (s >>> k)) (y := nI 1) (v := nI ((s >>> k) &&& 1)) X (fa_and _ _) dX7_has_4 rfl ?_
  have hb := k_and1 (s >>> k)
  refine r_iconst (q := 6) (v := nI 1) X kc_1 dX7_has_5 rfl ?_
  refine r_icmp_ne (q := 9) (tgt := 13) X (by decide) dX7_has_6 rfl (fun c6 => ?_) (fun c6 => ?_)
  · replace c6 : ¬ ((s >>> k) &&& 1) = 1 := fun h => c6 ((kI_eq (by omega) (by omega)).mpr h)
    refine r_iconst (q := 14) (v := nI 0) X kc_0 dX7_has_13 rfl ?_
    refine r_zret X Y (by decide) ?_ dX7_has_14
    refine ⟨?_, rfl, rfl⟩
    unfold hsb; first | rw [if_pos (by assumption)] | rw [if_neg (by assumption)]
  · replace c6 : ((s >>> k) &&& 1) = 1 := (kI_eq (by omega) (by omega)).mp c6
    refine r_iconst (q := 10) (v := nI 1) X kc_1 dX7_has_9 rfl ?_
    refine r_goto (tgt := 14) X (by decide) dX7_has_10 ?_
    refine r_zret X Y (by decide) ?_ dX7_has_14
    refine ⟨?_, rfl, rfl⟩
    unfold hsb; first | rw [if_pos (by assumption)] | rw [if_neg (by assumption)]
def shw (s v t : Nat) : Nat := if s = 1 then v / 2 else if s = 2 then (if 0 < v then v + 1 else 0) else if s = 3 then (if t % 2 = 0 then v else 0) else v
set_option maxHeartbeats 8000000 in
theorem c_through (l : Launch) (G : ks_G) (base : Nat) (Mx : ks_M) (Lx : ks_L) (s v t : Nat) (hs : s < 2147483648) (hv : v < 1000) (ht : t < 2147483648) : KI l G base 0 yX4_through cX4_through 3 .int [.int (nI (s)), .int (nI (v)), .int (nI (t))] SH Mx Lx (fun rr M1 L1 => rr = nI (shw s v t) ∧ M1 = Mx ∧ L1 = Lx) := by
  refine k_meti (by decide) (Nat.le_of_ble_eq_true rfl) (fun K hK X Y => ?_)
  subst hK
  refine r_pl [(0, .int (nI (s))), (1, .int (nI (v))), (2, .int (nI (t)))] ⟨rfl, rfl, rfl, trivial⟩ ?_
  refine r_iload_n (q := 1) (i := 0) (j := 0) (x := nI (s)) X rfl rfl dX4_through_0 rfl ?_
  rcases (show s = 1 ∨ s = 2 ∨ s = 3 ∨ 3 < s ∨ s < 1 by omega) with rfl | rfl | rfl | hn1 | hn1
  · refine r_tableIn (x := nI 1) (off := 27) (tgt := 28) X (by decide) (by decide) (by decide) (by decide) dX4_through_1 ?_
    refine r_iload_n (q := 29) (i := 1) (j := 1) (x := nI (v)) X rfl rfl dX4_through_28 rfl ?_
    refine r_iconst (q := 30) (v := nI 2) X kc_2 dX4_through_29 rfl ?_
    refine r_idivR (q := 31) (x := nI (v)) (y := nI 2) (v := nI (v / 2)) X (by decide) (pk_div (by omega) (by omega) (by omega)) dX4_through_30 rfl ?_
    refine r_iret X Y ?_ dX4_through_31
    exact ⟨by unfold shw; (repeat' split) <;> first | rfl | (exfalso; omega), rfl, rfl⟩
  · refine r_tableIn (x := nI 2) (off := 31) (tgt := 32) X (by decide) (by decide) (by decide) (by decide) dX4_through_1 ?_
    refine r_iload_n (q := 33) (i := 1) (j := 1) (x := nI (v)) X rfl rfl dX4_through_32 rfl ?_
    refine r_if_le (q := 36) (tgt := 42) X (by decide) dX4_through_33 rfl (fun c33 => ?_) (fun c33 => ?_)
    · replace c33 : v ≤ 0 := (kI_le0 (by omega)).mp c33
      refine r_iconst (q := 43) (v := nI 0) X kc_0 dX4_through_42 rfl ?_
      refine r_iret X Y ?_ dX4_through_43
      exact ⟨by unfold shw; (repeat' split) <;> first | rfl | (exfalso; omega), rfl, rfl⟩
    · replace c33 : ¬ v ≤ 0 := fun h => c33 ((kI_le0 (by omega)).mpr h)
      refine r_iload_n (q := 37) (i := 1) (j := 1) (x := nI (v)) X rfl rfl dX4_through_36 rfl ?_
      refine r_iconst (q := 38) (v := nI 1) X kc_1 dX4_through_37 rfl ?_
      refine r_iaddR (q := 39) (x := nI (v)) (y := nI 1) (v := nI (v + 1)) X (nI_add _ _) dX4_through_38 rfl ?_
      refine r_goto (tgt := 43) X (by decide) dX4_through_39 ?_
      refine r_iret X Y ?_ dX4_through_43
      exact ⟨by unfold shw; (repeat' split) <;> first | rfl | (exfalso; omega), rfl, rfl⟩
  · refine r_tableIn (x := nI 3) (off := 43) (tgt := 44) X (by decide) (by decide) (by decide) (by decide) dX4_through_1 ?_
    refine r_iload_n (q := 45) (i := 2) (j := 2) (x := nI (t)) X rfl rfl dX4_through_44 rfl ?_
    refine r_iconst (q := 46) (v := nI 2) X kc_2 dX4_through_45 rfl ?_
    refine r_iremR (q := 47) (x := nI (t)) (y := nI 2) (v := nI (t % 2)) X (by decide) (pk_rem (by omega) (by omega) (by omega)) dX4_through_46 rfl ?_
    refine r_if_eq (q := 50) (tgt := 54) X (by decide) dX4_through_47 rfl (fun c47 => ?_) (fun c47 => ?_)
    · replace c47 : (t % 2) = 0 := (kI_eq0 (by omega)).mp c47
      refine r_iload_n (q := 55) (i := 1) (j := 1) (x := nI (v)) X rfl rfl dX4_through_54 rfl ?_
      refine r_iret X Y ?_ dX4_through_55
      exact ⟨by unfold shw; (repeat' split) <;> first | rfl | (exfalso; omega), rfl, rfl⟩
    · replace c47 : ¬ (t % 2) = 0 := fun h => (c47 ((kI_eq0 (by omega)).mpr h))
      refine r_iconst (q := 51) (v := nI 0) X kc_0 dX4_through_50 rfl ?_
      refine r_goto (tgt := 55) X (by decide) dX4_through_51 ?_
      refine r_iret X Y ?_ dX4_through_55
      exact ⟨by unfold shw; (repeat' split) <;> first | rfl | (exfalso; omega), rfl, rfl⟩
  · refine r_tableOut (tgt := 56) X (Or.inr (kOutH (by omega) (by omega))) (by decide) dX4_through_1 ?_
    refine r_iload_n (q := 57) (i := 1) (j := 1) (x := nI (v)) X rfl rfl dX4_through_56 rfl ?_
    refine r_iret X Y ?_ dX4_through_57
    exact ⟨by unfold shw; (repeat' split) <;> first | rfl | (exfalso; omega), rfl, rfl⟩
  · refine r_tableOut (tgt := 56) X (Or.inl (kOutL (by omega) (by omega))) (by decide) dX4_through_1 ?_
    refine r_iload_n (q := 57) (i := 1) (j := 1) (x := nI (v)) X rfl rfl dX4_through_56 rfl ?_
    refine r_iret X Y ?_ dX4_through_57
    exact ⟨by unfold shw; (repeat' split) <;> first | rfl | (exfalso; omega), rfl, rfl⟩
set_option maxHeartbeats 8000000 in
theorem c_shows7 (l : Launch) (G : ks_G) (base : Nat) (Mx : ks_M) (Lx : ks_L) (s v t : Nat) (hs : s < 2147483648) (hv : v < 1000) (ht : t < 2147483648) : KI l G base 0 yX7_showsBy cX7_showsBy 3 .int [.int (nI (s)), .int (nI (v)), .int (nI (t))] SH Mx Lx (fun rr M1 L1 => rr = nI (shw s v t) ∧ M1 = Mx ∧ L1 = Lx) := by
  refine k_meti (by decide) (Nat.le_of_ble_eq_true rfl) (fun K hK X Y => ?_)
  subst hK
  refine r_pl [(0, .int (nI (s))), (1, .int (nI (v))), (2, .int (nI (t)))] ⟨rfl, rfl, rfl, trivial⟩ ?_
  refine r_iload_n (q := 1) (i := 0) (j := 0) (x := nI (s)) X rfl rfl dX7_showsBy_0 rfl ?_
  rcases (show s = 1 ∨ s = 2 ∨ s = 3 ∨ 3 < s ∨ s < 1 by omega) with rfl | rfl | rfl | hn1 | hn1
  · refine r_tableIn (x := nI 1) (off := 27) (tgt := 28) X (by decide) (by decide) (by decide) (by decide) dX7_showsBy_1 ?_
    refine r_iload_n (q := 29) (i := 1) (j := 1) (x := nI (v)) X rfl rfl dX7_showsBy_28 rfl ?_
    refine r_iconst (q := 30) (v := nI 2) X kc_2 dX7_showsBy_29 rfl ?_
    refine r_idivR (q := 31) (x := nI (v)) (y := nI 2) (v := nI (v / 2)) X (by decide) (pk_div (by omega) (by omega) (by omega)) dX7_showsBy_30 rfl ?_
    refine r_iret X Y ?_ dX7_showsBy_31
    exact ⟨by unfold shw; (repeat' split) <;> first | rfl | (exfalso; omega), rfl, rfl⟩
  · refine r_tableIn (x := nI 2) (off := 31) (tgt := 32) X (by decide) (by decide) (by decide) (by decide) dX7_showsBy_1 ?_
    refine r_iload_n (q := 33) (i := 1) (j := 1) (x := nI (v)) X rfl rfl dX7_showsBy_32 rfl ?_
    refine r_if_ne (q := 36) (tgt := 40) X (by decide) dX7_showsBy_33 rfl (fun c33 => ?_) (fun c33 => ?_)
    · replace c33 : ¬ v = 0 := fun h => c33 ((kI_eq0 (by omega)).mpr h)
      refine r_iload_n (q := 41) (i := 1) (j := 1) (x := nI (v)) X rfl rfl dX7_showsBy_40 rfl ?_
      refine r_iconst (q := 42) (v := nI 1) X kc_1 dX7_showsBy_41 rfl ?_
      refine r_iaddR (q := 43) (x := nI (v)) (y := nI 1) (v := nI (v + 1)) X (nI_add _ _) dX7_showsBy_42 rfl ?_
      refine r_iret X Y ?_ dX7_showsBy_43
      exact ⟨by unfold shw; (repeat' split) <;> first | rfl | (exfalso; omega), rfl, rfl⟩
    · replace c33 : v = 0 := (kI_eq0 (by omega)).mp c33
      refine r_iconst (q := 37) (v := nI 0) X kc_0 dX7_showsBy_36 rfl ?_
      refine r_goto (tgt := 43) X (by decide) dX7_showsBy_37 ?_
      refine r_iret X Y ?_ dX7_showsBy_43
      exact ⟨by unfold shw; (repeat' split) <;> first | rfl | (exfalso; omega), rfl, rfl⟩
  · refine r_tableIn (x := nI 3) (off := 43) (tgt := 44) X (by decide) (by decide) (by decide) (by decide) dX7_showsBy_1 ?_
    refine r_iload_n (q := 45) (i := 2) (j := 2) (x := nI (t)) X rfl rfl dX7_showsBy_44 rfl ?_
    refine r_iconst (q := 46) (v := nI 2) X kc_2 dX7_showsBy_45 rfl ?_
    refine r_iremR (q := 47) (x := nI (t)) (y := nI 2) (v := nI (t % 2)) X (by decide) (pk_rem (by omega) (by omega) (by omega)) dX7_showsBy_46 rfl ?_
    refine r_if_ne (q := 50) (tgt := 54) X (by decide) dX7_showsBy_47 rfl (fun c47 => ?_) (fun c47 => ?_)
    · replace c47 : ¬ (t % 2) = 0 := fun h => c47 ((kI_eq0 (by omega)).mpr h)
      refine r_iconst (q := 55) (v := nI 0) X kc_0 dX7_showsBy_54 rfl ?_
      refine r_iret X Y ?_ dX7_showsBy_55
      exact ⟨by unfold shw; (repeat' split) <;> first | rfl | (exfalso; omega), rfl, rfl⟩
    · replace c47 : (t % 2) = 0 := (kI_eq0 (by omega)).mp c47
      refine r_iload_n (q := 51) (i := 1) (j := 1) (x := nI (v)) X rfl rfl dX7_showsBy_50 rfl ?_
      refine r_goto (tgt := 55) X (by decide) dX7_showsBy_51 ?_
      refine r_iret X Y ?_ dX7_showsBy_55
      exact ⟨by unfold shw; (repeat' split) <;> first | rfl | (exfalso; omega), rfl, rfl⟩
  · refine r_tableOut (tgt := 56) X (Or.inr (kOutH (by omega) (by omega))) (by decide) dX7_showsBy_1 ?_
    refine r_iload_n (q := 57) (i := 1) (j := 1) (x := nI (v)) X rfl rfl dX7_showsBy_56 rfl ?_
    refine r_iret X Y ?_ dX7_showsBy_57
    exact ⟨by unfold shw; (repeat' split) <;> first | rfl | (exfalso; omega), rfl, rfl⟩
  · refine r_tableOut (tgt := 56) X (Or.inl (kOutL (by omega) (by omega))) (by decide) dX7_showsBy_1 ?_
    refine r_iload_n (q := 57) (i := 1) (j := 1) (x := nI (v)) X rfl rfl dX7_showsBy_56 rfl ?_
    refine r_iret X Y ?_ dX7_showsBy_57
    exact ⟨by unfold shw; (repeat' split) <;> first | rfl | (exfalso; omega), rfl, rfl⟩
end
section
/-! LEAVES: divisors, rows as figures, ranges -/
theorem kIn {x : Int32} {y z : Int64} {a b : Int} (hy : y.toInt = a) (hz : z.toInt = b) (ha : 0 ≤ a) (hb : b < 2147483648) : (y ≤ x.toInt64 ∧ x.toInt64 ≤ z) ↔ ∃ k : Nat, a ≤ k ∧ (k : Int) ≤ b ∧ x = nI k := by
  rw [fa_le64, fa_le64, Int32.toInt_toInt64, hy, hz]
  constructor
  · intro h
    refine ⟨x.toInt.toNat, by omega, by omega, ?_⟩
    apply Int32.toInt_inj.mp
    have h2 := Int32.toInt_lt x
    rw [nI_toInt (by omega)]
    omega
  · rintro ⟨k, h1, h2, rfl⟩
    rw [nI_toInt (by omega)]
    omega
theorem kdiv10 {r : Nat} (h : r < 2147483648) (j : Nat) : nI (r / 10 ^ j) / nI 10 = nI (r / 10 ^ (j + 1)) := by
  rw [pk_div (Nat.lt_of_le_of_lt (Nat.div_le_self _ _) h) (by decide) (by decide), Nat.div_div_eq_div_mul, Nat.pow_succ]
def dg (n r p : Nat) : Nat := r / 10 ^ (n - 1 - p) % 10
theorem c_figure (l : Launch) (G : ks_G) (base : Nat) (Mx : ks_M) (Lx : ks_L) (n r p : Nat) (hn : n < 1000) (hp : p < n) (hr : r < 2147483648) : KI l G base 0 yX6_figure cX6_figure 5 .int [.int (nI (n)), .int (nI (r)), .int (nI (p))] SH Mx Lx (fun rr M1 L1 => rr = nI (dg n r p) ∧ M1 = Mx ∧ L1 = Lx) := by
  refine k_meti (by decide) (Nat.le_of_ble_eq_true rfl) (fun K hK X Y => ?_)
  subst hK
  have lp : ∀ (fuel : Nat) (j : Nat), n - (p + 1 + j) < fuel → (p + 1 + j ≤ n) → RN K G base 5 0 0 SH Mx Lx 7 [(0, .int (nI (n))), (1, .int (nI (r))), (2, .int (nI (p))), (3, .int (nI (r / 10 ^ j))), (4, .int (nI (p + 1 + j)))] [] := by
    intro fuel
    induction fuel with
    | zero => intro j hfu; exact absurd hfu (Nat.not_lt_zero _)
    | succ fuel ih =>
      intro j hfu hj
      have hq : r / 10 ^ j ≤ r := Nat.div_le_self _ _
      refine r_iload (q := 9) (i := 4) (x := nI (p + 1 + j)) X rfl dX6_figure_7 rfl ?_
      refine r_iload_n (q := 10) (i := 0) (j := 0) (x := nI (n)) X rfl rfl dX6_figure_9 rfl ?_
      refine r_icmp_ge (q := 13) (tgt := 24) X (by decide) dX6_figure_10 rfl (fun c10 => ?_) (fun c10 => ?_)
      · replace c10 : n ≤ (p + 1 + j) := (nI_leI (by omega) (by omega)).mp c10
        refine r_iload_n (q := 25) (i := 3) (j := 3) (x := nI (r / 10 ^ j)) X rfl rfl dX6_figure_24 rfl ?_
        refine r_bipush (q := 27) (v := nI 10) X kb_10 dX6_figure_25 rfl ?_
        refine r_iremR (q := 28) (x := nI (r / 10 ^ j)) (y := nI 10) (v := nI ((r / 10 ^ j) % 10)) X (by decide) (pk_rem (by omega) (by omega) (by omega)) dX6_figure_27 rfl ?_
        refine r_iret X Y ?_ dX6_figure_28
        exact ⟨by unfold dg; rw [show n - 1 - p = j by omega], rfl, rfl⟩
      · replace c10 : ¬ n ≤ (p + 1 + j) := fun h => c10 ((nI_leI (by omega) (by omega)).mpr h)
        refine r_iload_n (q := 14) (i := 3) (j := 3) (x := nI (r / 10 ^ j)) X rfl rfl dX6_figure_13 rfl ?_
        refine r_bipush (q := 16) (v := nI 10) X kb_10 dX6_figure_14 rfl ?_
        refine r_idivR (q := 17) (x := nI (r / 10 ^ j)) (y := nI 10) (v := nI (r / 10 ^ (j + 1))) X (by decide) (kdiv10 hr j) dX6_figure_16 rfl ?_
        refine r_istore_n (q := 18) (i := 3) (j := 3) X rfl (Nat.le_of_ble_eq_true rfl) dX6_figure_17 rfl ?_
        refine r_iinc (q := 21) (i := 4) (x := nI (p + 1 + j)) (v := nI (p + 1 + j + 1)) X rfl (Nat.le_of_ble_eq_true rfl) (kinc 1 rfl) dX6_figure_18 rfl ?_
        refine r_goto (tgt := 7) X (by decide) dX6_figure_21 ?_
        refine r_pl [(0, .int (nI (n))), (1, .int (nI (r))), (2, .int (nI (p))), (3, .int (nI (r / 10 ^ (j + 1)))), (4, .int (nI (p + 1 + (j + 1))))] ⟨rfl, rfl, rfl, rfl, rfl, trivial⟩ ?_
        exact ih (j + 1) (by omega) (by omega)
  refine r_pl [(0, .int (nI (n))), (1, .int (nI (r))), (2, .int (nI (p)))] ⟨rfl, rfl, rfl, trivial⟩ ?_
  refine r_iload_n (q := 1) (i := 1) (j := 1) (x := nI (r)) X rfl rfl dX6_figure_0 rfl ?_
  refine r_istore_n (q := 2) (i := 3) (j := 3) X rfl (Nat.le_of_ble_eq_true rfl) dX6_figure_1 rfl ?_
  refine r_iload_n (q := 3) (i := 2) (j := 2) (x := nI (p)) X rfl rfl dX6_figure_2 rfl ?_
  refine r_iconst (q := 4) (v := nI 1) X kc_1 dX6_figure_3 rfl ?_
  refine r_iaddR (q := 5) (x := nI (p)) (y := nI 1) (v := nI (p + 1)) X (nI_add _ _) dX6_figure_4 rfl ?_
  refine r_istore (q := 7) (i := 4) X (Nat.le_of_ble_eq_true rfl) dX6_figure_5 rfl ?_
  refine r_pl [(0, .int (nI n)), (1, .int (nI r)), (2, .int (nI p)), (3, .int (nI (r / 10 ^ 0))), (4, .int (nI (p + 1 + 0)))] ⟨rfl, rfl, rfl, by rw [Nat.pow_zero, Nat.div_one]; rfl, rfl, trivial⟩ ?_
  exact lp (n + 1) 0 (by omega) (by omega)
theorem kgcd_step {a b : Nat} : Nat.gcd b (a % b) = Nat.gcd a b := by
  rw [Nat.gcd_comm b, Nat.gcd_comm a b, ← Nat.gcd_rec b a]
def kgi (a b i x y : Nat) : Prop := Nat.gcd x y = Nat.gcd a b ∧ x < 2147483648 ∧ y < 2147483648 ∧ (i = 0 ∨ (y < x ∧ x * y * 2 ^ (i - 1) < 2 ^ 62))
theorem kgi_step {a b i x y : Nat} (h : kgi a b i x y) (hy : y ≠ 0) : kgi a b (i + 1) y (x % y) := by
  obtain ⟨h1, h2, h3, h4⟩ := h
  have hlt : x % y < y := Nat.mod_lt _ (by omega)
  refine ⟨by rw [kgcd_step, h1], h3, by omega, Or.inr ⟨hlt, ?_⟩⟩
  rw [Nat.add_sub_cancel]
  rcases h4 with rfl | ⟨h5, h6⟩
  · rw [Nat.pow_zero, Nat.mul_one]
    calc y * (x % y) ≤ 2147483647 * 2147483647 := Nat.mul_le_mul (by omega) (by omega)
      _ < 2 ^ 62 := by decide
  · have hi : ∃ j, i = j + 1 ∨ i = 0 := ⟨i - 1, by omega⟩
    have h7 : 2 * (x % y) ≤ x := by
      have h8 := Nat.div_add_mod x y
      have h9 : 1 ≤ x / y := (Nat.one_le_div_iff (by omega)).mpr (by omega)
      have h10 : y * 1 ≤ y * (x / y) := Nat.mul_le_mul_left _ h9
      omega
    cases i with
    | zero =>
      rw [Nat.pow_zero, Nat.mul_one]
      calc y * (x % y) ≤ 2147483647 * 2147483647 := Nat.mul_le_mul (by omega) (by omega)
        _ < 2 ^ 62 := by decide
    | succ j =>
      rw [Nat.add_sub_cancel] at h6
      refine Nat.lt_of_le_of_lt ?_ h6
      rw [Nat.pow_succ, Nat.mul_comm (2 ^ j) 2, ← Nat.mul_assoc]
      refine Nat.mul_le_mul_right _ ?_
      calc y * (x % y) * 2 = y * (2 * (x % y)) := by rw [Nat.mul_assoc, Nat.mul_comm (x % y) 2]
        _ ≤ y * x := Nat.mul_le_mul_left _ h7
        _ = x * y := Nat.mul_comm _ _
theorem kgi_end {a b x y : Nat} (h : kgi a b 64 x y) : y = 0 := by
  obtain ⟨h1, h2, h3, h4⟩ := h
  rcases h4 with h4 | ⟨h5, h6⟩
  · omega
  · by_cases hy : y = 0
    · exact hy
    · exfalso
      have h7 : 1 ≤ x * y := Nat.mul_pos (by omega) (by omega)
      have h8 : 1 * 2 ^ 63 ≤ x * y * 2 ^ 63 := Nat.mul_le_mul_right _ h7
      have h9 : x * y * 2 ^ 63 < 2 ^ 62 := h6
      omega
theorem kgi_val {a b i x y : Nat} (h : kgi a b i x y) (hy : y = 0) : x = Nat.gcd a b := by
  rw [← h.1, hy, Nat.gcd_zero_right]
theorem c_gcd6 (l : Launch) (G : ks_G) (base : Nat) (Mx : ks_M) (Lx : ks_L) (a b : Nat) (ha : a < 2147483648) (hb : b < 2147483648) : KI l G base 0 yX6_commonDivisor cX6_commonDivisor 6 .int [.int (nI (a)), .int (nI (b))] SH Mx Lx (fun rr M1 L1 => rr = nI (Nat.gcd a b) ∧ M1 = Mx ∧ L1 = Lx) := by
  refine k_meti (by decide) (Nat.le_of_ble_eq_true rfl) (fun K hK X Y => ?_)
  subst hK
  have lp : ∀ (fuel : Nat) (i : Nat) (x : Nat) (y : Nat), 64 - i < fuel → (i ≤ 64) → (kgi a b i x y) → RN K G base 6 0 0 SH Mx Lx 7 [(0, .int (nI (a))), (1, .int (nI (b))), (2, .int (nI (x))), (3, .int (nI (y))), (4, .int (nI (i)))] [] := by
    intro fuel
    induction fuel with
    | zero => intro i x y hfu; exact absurd hfu (Nat.not_lt_zero _)
    | succ fuel ih =>
      intro i x y hfu hi hg
      have hx := hg.2.1
      have hy := hg.2.2.1
      refine r_iload (q := 9) (i := 4) (x := nI (i)) X rfl dX6_commonDivisor_7 rfl ?_
      refine r_bipush (q := 11) (v := nI 64) X kb_64 dX6_commonDivisor_9 rfl ?_
      refine r_icmp_ge (q := 14) (tgt := 34) X (by decide) dX6_commonDivisor_11 rfl (fun c11 => ?_) (fun c11 => ?_)
      · replace c11 : 64 ≤ i := (nI_leI (by omega) (by omega)).mp c11
        refine r_iload_n (q := 35) (i := 2) (j := 2) (x := nI (x)) X rfl rfl dX6_commonDivisor_34 rfl ?_
        refine r_iret X Y ?_ dX6_commonDivisor_35
        exact ⟨by rw [kgi_val hg (by first | assumption | exact kgi_end ((show i = 64 by omega) ▸ hg))], rfl, rfl⟩
      · replace c11 : ¬ 64 ≤ i := fun h => c11 ((nI_leI (by omega) (by omega)).mpr h)
        refine r_iload_n (q := 15) (i := 3) (j := 3) (x := nI (y)) X rfl rfl dX6_commonDivisor_14 rfl ?_
        refine r_if_eq (q := 18) (tgt := 34) X (by decide) dX6_commonDivisor_15 rfl (fun c15 => ?_) (fun c15 => ?_)
        · replace c15 : y = 0 := (kI_eq0 (by omega)).mp c15
          refine r_iload_n (q := 35) (i := 2) (j := 2) (x := nI (x)) X rfl rfl dX6_commonDivisor_34 rfl ?_
          refine r_iret X Y ?_ dX6_commonDivisor_35
          exact ⟨by rw [kgi_val hg (by first | assumption | exact kgi_end ((show i = 64 by omega) ▸ hg))], rfl, rfl⟩
        · replace c15 : ¬ y = 0 := fun h => (c15 ((kI_eq0 (by omega)).mpr h))
          refine r_iload_n (q := 19) (i := 2) (j := 2) (x := nI (x)) X rfl rfl dX6_commonDivisor_18 rfl ?_
          refine r_iload_n (q := 20) (i := 3) (j := 3) (x := nI (y)) X rfl rfl dX6_commonDivisor_19 rfl ?_
          refine r_iremR (q := 21) (x := nI (x)) (y := nI (y)) (v := nI (x % y)) X (nI_ne0 (by omega) (by omega)) (pk_rem (by omega) (by omega) (by omega)) dX6_commonDivisor_20 rfl ?_
          refine r_istore (q := 23) (i := 5) X (Nat.le_of_ble_eq_true rfl) dX6_commonDivisor_21 rfl ?_
          refine r_iload_n (q := 24) (i := 3) (j := 3) (x := nI (y)) X rfl rfl dX6_commonDivisor_23 rfl ?_
          refine r_istore_n (q := 25) (i := 2) (j := 2) X rfl (Nat.le_of_ble_eq_true rfl) dX6_commonDivisor_24 rfl ?_
          refine r_iload (q := 27) (i := 5) (x := nI (x % y)) X rfl dX6_commonDivisor_25 rfl ?_
          refine r_istore_n (q := 28) (i := 3) (j := 3) X rfl (Nat.le_of_ble_eq_true rfl) dX6_commonDivisor_27 rfl ?_
          refine r_iinc (q := 31) (i := 4) (x := nI (i)) (v := nI (i + 1)) X rfl (Nat.le_of_ble_eq_true rfl) (kinc 1 rfl) dX6_commonDivisor_28 rfl ?_
          refine r_goto (tgt := 7) X (by decide) dX6_commonDivisor_31 ?_
          refine r_pl [(0, .int (nI (a))), (1, .int (nI (b))), (2, .int (nI (y))), (3, .int (nI (x % y))), (4, .int (nI (i + 1)))] ⟨rfl, rfl, rfl, rfl, rfl, trivial⟩ ?_
          exact ih (i + 1) y (x % y) (by omega) (by omega) (kgi_step hg c15)
  refine r_pl [(0, .int (nI (a))), (1, .int (nI (b)))] ⟨rfl, rfl, trivial⟩ ?_
  refine r_iload_n (q := 1) (i := 0) (j := 0) (x := nI (a)) X rfl rfl dX6_commonDivisor_0 rfl ?_
  refine r_istore_n (q := 2) (i := 2) (j := 2) X rfl (Nat.le_of_ble_eq_true rfl) dX6_commonDivisor_1 rfl ?_
  refine r_iload_n (q := 3) (i := 1) (j := 1) (x := nI (b)) X rfl rfl dX6_commonDivisor_2 rfl ?_
  refine r_istore_n (q := 4) (i := 3) (j := 3) X rfl (Nat.le_of_ble_eq_true rfl) dX6_commonDivisor_3 rfl ?_
  refine r_iconst (q := 5) (v := nI 0) X kc_0 dX6_commonDivisor_4 rfl ?_
  refine r_istore (q := 7) (i := 4) X (Nat.le_of_ble_eq_true rfl) dX6_commonDivisor_5 rfl ?_
  refine r_pl [(0, .int (nI (a))), (1, .int (nI (b))), (2, .int (nI (a))), (3, .int (nI (b))), (4, .int (nI (0)))] ⟨rfl, rfl, rfl, rfl, rfl, trivial⟩ ?_
  exact lp 65 0 a b (by omega) (by omega) ⟨rfl, ha, hb, Or.inl rfl⟩
theorem c_gcd7 (l : Launch) (G : ks_G) (base : Nat) (Mx : ks_M) (Lx : ks_L) (a b : Nat) (ha : a < 2147483648) (hb : b < 2147483648) : KI l G base 0 yX7_divisor cX7_divisor 5 .int [.int (nI (a)), .int (nI (b))] SH Mx Lx (fun rr M1 L1 => rr = nI (Nat.gcd a b) ∧ M1 = Mx ∧ L1 = Lx) := by
  refine k_meti (by decide) (Nat.le_of_ble_eq_true rfl) (fun K hK X Y => ?_)
  subst hK
  have lp : ∀ (fuel : Nat) (x : Nat) (y : Nat), y < fuel → (x < 2147483648) → (y < 2147483648) → (Nat.gcd x y = Nat.gcd a b) → RN K G base 5 0 0 SH Mx Lx 13 [(0, .int (nI (a))), (1, .int (nI (b))), (2, .int (nI (x))), (3, .int (nI (y)))] [] := by
    intro fuel
    induction fuel with
    | zero => intro x y hfu; exact absurd hfu (Nat.not_lt_zero _)
    | succ fuel ih =>
      intro x y hfu hx hy hg
      have hmod : y ≠ 0 → x % y < y := fun h => Nat.mod_lt _ (by omega)
      refine r_iload_n (q := 14) (i := 3) (j := 3) (x := nI (y)) X rfl rfl dX7_divisor_13 rfl ?_
      refine r_if_eq (q := 17) (tgt := 30) X (by decide) dX7_divisor_14 rfl (fun c14 => ?_) (fun c14 => ?_)
      · replace c14 : y = 0 := (kI_eq0 (by omega)).mp c14
        refine r_iload_n (q := 31) (i := 2) (j := 2) (x := nI (x)) X rfl rfl dX7_divisor_30 rfl ?_
        refine r_iret X Y ?_ dX7_divisor_31
        exact ⟨by rw [← hg, c14, Nat.gcd_zero_right], rfl, rfl⟩
      · replace c14 : ¬ y = 0 := fun h => (c14 ((kI_eq0 (by omega)).mpr h))
        refine r_iload_n (q := 18) (i := 2) (j := 2) (x := nI (x)) X rfl rfl dX7_divisor_17 rfl ?_
        refine r_iload_n (q := 19) (i := 3) (j := 3) (x := nI (y)) X rfl rfl dX7_divisor_18 rfl ?_
        refine r_iremR (q := 20) (x := nI (x)) (y := nI (y)) (v := nI (x % y)) X (nI_ne0 (by omega) (by omega)) (pk_rem (by omega) (by omega) (by omega)) dX7_divisor_19 rfl ?_
        refine r_istore (q := 22) (i := 4) X (Nat.le_of_ble_eq_true rfl) dX7_divisor_20 rfl ?_
        refine r_iload_n (q := 23) (i := 3) (j := 3) (x := nI (y)) X rfl rfl dX7_divisor_22 rfl ?_
        refine r_istore_n (q := 24) (i := 2) (j := 2) X rfl (Nat.le_of_ble_eq_true rfl) dX7_divisor_23 rfl ?_
        refine r_iload (q := 26) (i := 4) (x := nI (x % y)) X rfl dX7_divisor_24 rfl ?_
        refine r_istore_n (q := 27) (i := 3) (j := 3) X rfl (Nat.le_of_ble_eq_true rfl) dX7_divisor_26 rfl ?_
        refine r_goto (tgt := 13) X (by decide) dX7_divisor_27 ?_
        have hm2 := hmod c14
        refine r_pl [(0, .int (nI (a))), (1, .int (nI (b))), (2, .int (nI (y))), (3, .int (nI (x % y)))] ⟨rfl, rfl, rfl, rfl, trivial⟩ ?_
        exact ih y (x % y) (by omega) hy (by omega) (by rw [kgcd_step, hg])
  refine r_pl [(0, .int (nI (a))), (1, .int (nI (b)))] ⟨rfl, rfl, trivial⟩ ?_
  refine r_iload_n (q := 1) (i := 0) (j := 0) (x := nI (a)) X rfl rfl dX7_divisor_0 rfl ?_
  refine r_if_ge (q := 4) (tgt := 9) X (by decide) dX7_divisor_1 rfl (fun c1 => ?_) (fun c1 => ?_)
  · replace c1 : 0 ≤ a := (kI_ge0 (by omega)).mp c1
    refine r_iload_n (q := 10) (i := 0) (j := 0) (x := nI (a)) X rfl rfl dX7_divisor_9 rfl ?_
    refine r_istore_n (q := 11) (i := 2) (j := 2) X rfl (Nat.le_of_ble_eq_true rfl) dX7_divisor_10 rfl ?_
    refine r_iload_n (q := 12) (i := 1) (j := 1) (x := nI (b)) X rfl rfl dX7_divisor_11 rfl ?_
    refine r_istore_n (q := 13) (i := 3) (j := 3) X rfl (Nat.le_of_ble_eq_true rfl) dX7_divisor_12 rfl ?_
    refine r_pl [(0, .int (nI (a))), (1, .int (nI (b))), (2, .int (nI (a))), (3, .int (nI (b)))] ⟨rfl, rfl, rfl, rfl, trivial⟩ ?_
    exact lp (b + 1) a b (by omega) ha hb rfl
  · replace c1 : ¬ 0 ≤ a := fun h => c1 ((kI_ge0 (by omega)).mpr h)
    exfalso; omega
def frc (a b u : Nat) : Nat := if u = 0 then b / Nat.gcd a b else a / Nat.gcd a b
theorem c_partOf (l : Launch) (G : ks_G) (base : Nat) (Mx : ks_M) (Lx : ks_L) (a b u : Nat) (ha : a < 2147483648) (hb : b < 2147483648) (hb0 : 0 < b) (hu : u < 2) : KI l G base 1 yX6_partOf cX6_partOf 4 .int [.int (nI (a)), .int (nI (b)), .int (nI (u))] SH Mx Lx (fun rr M1 L1 => rr = nI (frc a b u) ∧ M1 = Mx ∧ L1 = Lx) := by
  refine k_meti (by decide) (Nat.le_of_ble_eq_true rfl) (fun K hK X Y => ?_)
  subst hK
  refine r_pl [(0, .int (nI (a))), (1, .int (nI (b))), (2, .int (nI (u)))] ⟨rfl, rfl, rfl, trivial⟩ ?_
  refine r_iload_n (q := 1) (i := 0) (j := 0) (x := nI (a)) X rfl rfl dX6_partOf_0 rfl ?_
  refine r_iload_n (q := 2) (i := 1) (j := 1) (x := nI (b)) X rfl rfl dX6_partOf_1 rfl ?_
  refine r_callSi (q := 5) X (c_gcd6 K.2.1 G base Mx Lx a b ha hb) ks_RX6_222 (by decide) (by decide) ⟨Nat.zero_le _, Nat.zero_le _⟩ rfl (Nat.le_of_ble_eq_true rfl) dX6_partOf_2 rfl (fun r M1 L1 hp => ?_)
  obtain ⟨e1, e2, e3⟩ := hp
  subst e1
  replace e2 := e2.symm
  subst e2
  replace e3 := e3.symm
  subst e3
  have hg0 : 0 < Nat.gcd a b := Nat.gcd_pos_of_pos_right _ hb0
  have hg1 : Nat.gcd a b ≤ b := Nat.gcd_le_right _ hb0
  refine r_istore_n (q := 6) (i := 3) (j := 3) X rfl (Nat.le_of_ble_eq_true rfl) dX6_partOf_5 rfl ?_
  refine r_iload_n (q := 7) (i := 3) (j := 3) (x := nI (Nat.gcd a b)) X rfl rfl dX6_partOf_6 rfl ?_
  refine r_if_ne (q := 10) (tgt := 12) X (by decide) dX6_partOf_7 rfl (fun c7 => ?_) (fun c7 => ?_)
  · replace c7 : ¬ (Nat.gcd a b) = 0 := fun h => c7 ((kI_eq0 (by omega)).mpr h)
    refine r_iload_n (q := 13) (i := 2) (j := 2) (x := nI (u)) X rfl rfl dX6_partOf_12 rfl ?_
    refine r_if_eq (q := 16) (tgt := 22) X (by decide) dX6_partOf_13 rfl (fun c13 => ?_) (fun c13 => ?_)
    · replace c13 : u = 0 := (kI_eq0 (by omega)).mp c13
      refine r_iload_n (q := 23) (i := 1) (j := 1) (x := nI (b)) X rfl rfl dX6_partOf_22 rfl ?_
      refine r_iload_n (q := 24) (i := 3) (j := 3) (x := nI (Nat.gcd a b)) X rfl rfl dX6_partOf_23 rfl ?_
      refine r_idivR (q := 25) (x := nI (b)) (y := nI (Nat.gcd a b)) (v := nI (b / (Nat.gcd a b))) X (nI_ne0 (by omega) (by omega)) (pk_div (by omega) (by omega) (by omega)) dX6_partOf_24 rfl ?_
      refine r_iret X Y ?_ dX6_partOf_25
      refine ⟨?_, rfl, rfl⟩
      unfold frc; first | rw [if_pos (by assumption)] | rw [if_neg (by assumption)]
    · replace c13 : ¬ u = 0 := fun h => (c13 ((kI_eq0 (by omega)).mpr h))
      refine r_iload_n (q := 17) (i := 0) (j := 0) (x := nI (a)) X rfl rfl dX6_partOf_16 rfl ?_
      refine r_iload_n (q := 18) (i := 3) (j := 3) (x := nI (Nat.gcd a b)) X rfl rfl dX6_partOf_17 rfl ?_
      refine r_idivR (q := 19) (x := nI (a)) (y := nI (Nat.gcd a b)) (v := nI (a / (Nat.gcd a b))) X (nI_ne0 (by omega) (by omega)) (pk_div (by omega) (by omega) (by omega)) dX6_partOf_18 rfl ?_
      refine r_goto (tgt := 25) X (by decide) dX6_partOf_19 ?_
      refine r_iret X Y ?_ dX6_partOf_25
      refine ⟨?_, rfl, rfl⟩
      unfold frc; first | rw [if_pos (by assumption)] | rw [if_neg (by assumption)]
  · replace c7 : (Nat.gcd a b) = 0 := (kI_eq0 (by omega)).mp c7
    exfalso; omega
theorem c_fraction (l : Launch) (G : ks_G) (base : Nat) (Mx : ks_M) (Lx : ks_L) (a b u : Nat) (ha : a < 2147483648) (hb : b < 2147483648) (hb0 : 0 < b) (hu : u < 2) : KI l G base 1 yX7_fraction cX7_fraction 4 .int [.int (nI (a)), .int (nI (b)), .int (nI (u))] SH Mx Lx (fun rr M1 L1 => rr = nI (frc a b u) ∧ M1 = Mx ∧ L1 = Lx) := by
  refine k_meti (by decide) (Nat.le_of_ble_eq_true rfl) (fun K hK X Y => ?_)
  subst hK
  refine r_pl [(0, .int (nI (a))), (1, .int (nI (b))), (2, .int (nI (u)))] ⟨rfl, rfl, rfl, trivial⟩ ?_
  refine r_iload_n (q := 1) (i := 0) (j := 0) (x := nI (a)) X rfl rfl dX7_fraction_0 rfl ?_
  refine r_iload_n (q := 2) (i := 1) (j := 1) (x := nI (b)) X rfl rfl dX7_fraction_1 rfl ?_
  refine r_callSi (q := 5) X (c_gcd7 K.2.1 G base Mx Lx a b ha hb) ks_RX7_159 (by decide) (by decide) ⟨Nat.zero_le _, Nat.zero_le _⟩ rfl (Nat.le_of_ble_eq_true rfl) dX7_fraction_2 rfl (fun r M1 L1 hp => ?_)
  obtain ⟨e1, e2, e3⟩ := hp
  subst e1
  replace e2 := e2.symm
  subst e2
  replace e3 := e3.symm
  subst e3
  have hg0 : 0 < Nat.gcd a b := Nat.gcd_pos_of_pos_right _ hb0
  have hg1 : Nat.gcd a b ≤ b := Nat.gcd_le_right _ hb0
  refine r_istore_n (q := 6) (i := 3) (j := 3) X rfl (Nat.le_of_ble_eq_true rfl) dX7_fraction_5 rfl ?_
  refine r_iload_n (q := 7) (i := 2) (j := 2) (x := nI (u)) X rfl rfl dX7_fraction_6 rfl ?_
  refine r_if_eq (q := 10) (tgt := 16) X (by decide) dX7_fraction_7 rfl (fun c7 => ?_) (fun c7 => ?_)
  · replace c7 : u = 0 := (kI_eq0 (by omega)).mp c7
    refine r_iload_n (q := 17) (i := 1) (j := 1) (x := nI (b)) X rfl rfl dX7_fraction_16 rfl ?_
    refine r_iload_n (q := 18) (i := 3) (j := 3) (x := nI (Nat.gcd a b)) X rfl rfl dX7_fraction_17 rfl ?_
    refine r_idivR (q := 19) (x := nI (b)) (y := nI (Nat.gcd a b)) (v := nI (b / (Nat.gcd a b))) X (nI_ne0 (by omega) (by omega)) (pk_div (by omega) (by omega) (by omega)) dX7_fraction_18 rfl ?_
    refine r_iret X Y ?_ dX7_fraction_19
    refine ⟨?_, rfl, rfl⟩
    unfold frc; first | rw [if_pos (by assumption)] | rw [if_neg (by assumption)]
  · replace c7 : ¬ u = 0 := fun h => (c7 ((kI_eq0 (by omega)).mpr h))
    refine r_iload_n (q := 11) (i := 0) (j := 0) (x := nI (a)) X rfl rfl dX7_fraction_10 rfl ?_
    refine r_iload_n (q := 12) (i := 3) (j := 3) (x := nI (Nat.gcd a b)) X rfl rfl dX7_fraction_11 rfl ?_
    refine r_idivR (q := 13) (x := nI (a)) (y := nI (Nat.gcd a b)) (v := nI (a / (Nat.gcd a b))) X (nI_ne0 (by omega) (by omega)) (pk_div (by omega) (by omega) (by omega)) dX7_fraction_12 rfl ?_
    refine r_goto (tgt := 19) X (by decide) dX7_fraction_13 ?_
    refine r_iret X Y ?_ dX7_fraction_19
    refine ⟨?_, rfl, rfl⟩
    unfold frc; first | rw [if_pos (by assumption)] | rw [if_neg (by assumption)]
def okr (n : Nat) (x : Int32) (r : Nat) : Prop := x = nI r ∧ r < 10 ^ n ∧ ∀ p, p < n → dg n r p < 4
theorem kp10 {n : Nat} (hn : n ≤ 8) : 10 ^ n ≤ 100000000 := Nat.le_trans (Nat.pow_le_pow_right (by decide) hn) (show 10 ^ 8 ≤ 100000000 by decide)
theorem c_isRow (l : Launch) (G : ks_G) (base : Nat) (Mx : ks_M) (Lx : ks_L) (n : Nat) (x : Int32) (hn : n ≤ 8) : KI l G base 1 yX6_isRow cX6_isRow 3 .boolean [.int (nI (n)), .int (x)] SH Mx Lx (fun rr M1 L1 => (∃ r, rr = nI 1 ∧ okr n x r ∧ M1 = Mx ∧ L1 = Lx) ∨ (rr = nI 0 ∧ (∀ r, ¬ okr n x r) ∧ M1 = Mx ∧ L1 = Lx)) := by
  refine k_meti (by decide) (Nat.le_of_ble_eq_true rfl) (fun K hK X Y => ?_)
  subst hK
  refine r_pl [(0, .int (nI (n))), (1, .int (x))] ⟨rfl, rfl, trivial⟩ ?_
  have h10 := kp10 hn
  refine r_iload_n (q := 1) (i := 1) (j := 1) (x := x) X rfl rfl dX6_isRow_0 rfl ?_
  refine r_if_lt (q := 4) (tgt := 14) X (by decide) dX6_isRow_1 rfl (fun c1 => ?_) (fun c1 => ?_)
  · skip
    refine r_iconst (q := 15) (v := nI 0) X kc_0 dX6_isRow_14 rfl ?_
    refine r_zret X Y (by decide) ?_ dX6_isRow_15
    refine Or.inr ⟨rfl, fun r hr => ?_, rfl, rfl⟩
    obtain ⟨h1, h2, -⟩ := hr
    rw [h1] at c1
    exact absurd c1 (nI_pos (by omega))
  · skip
    obtain ⟨r, hr, rfl⟩ := nI_of c1
    refine r_iload_n (q := 5) (i := 1) (j := 1) (x := nI (r)) X rfl rfl dX6_isRow_4 rfl ?_
    refine r_bipush (q := 7) (v := nI 10) X kb_10 dX6_isRow_5 rfl ?_
    refine r_iload_n (q := 8) (i := 0) (j := 0) (x := nI (n)) X rfl rfl dX6_isRow_7 rfl ?_
    refine r_callSi (q := 11) X (c_power6 K.2.1 G base Mx Lx 10 n (by omega)) ks_RX6_207 (by decide) (by decide) ⟨Nat.zero_le _, Nat.zero_le _⟩ rfl (Nat.le_of_ble_eq_true rfl) dX6_isRow_8 rfl (fun r M1 L1 hp => ?_)
    obtain ⟨e1, e2, e3⟩ := hp
    subst e1
    replace e2 := e2.symm
    subst e2
    replace e3 := e3.symm
    subst e3
    refine r_icmp_lt (q := 14) (tgt := 16) X (by decide) dX6_isRow_11 rfl (fun c11 => ?_) (fun c11 => ?_)
    · replace c11 : r < (10 ^ n) := (nI_ltI (by omega) (by omega)).mp c11
      refine r_iconst (q := 17) (v := nI 0) X kc_0 dX6_isRow_16 rfl ?_
      refine r_istore_n (q := 18) (i := 2) (j := 2) X rfl (Nat.le_of_ble_eq_true rfl) dX6_isRow_17 rfl ?_
      have hr10 : r < 10 ^ n := by omega
      have lp : ∀ (fuel : Nat) (p : Nat), n - p < fuel → (p ≤ n) → (∀ p2, p2 < p → dg n r p2 < 4) → RN K G base 3 0 0 SH Mx Lx 18 [(0, .int (nI (n))), (1, .int (nI (r))), (2, .int (nI (p)))] [] := by
        intro fuel
        induction fuel with
        | zero => intro p hfu; exact absurd hfu (Nat.not_lt_zero _)
        | succ fuel ih =>
          intro p hfu hp hp2
          refine r_iload_n (q := 19) (i := 2) (j := 2) (x := nI (p)) X rfl rfl dX6_isRow_18 rfl ?_
          refine r_iload_n (q := 20) (i := 0) (j := 0) (x := nI (n)) X rfl rfl dX6_isRow_19 rfl ?_
          refine r_icmp_ge (q := 23) (tgt := 41) X (by decide) dX6_isRow_20 rfl (fun c20 => ?_) (fun c20 => ?_)
          · replace c20 : n ≤ p := (nI_leI (by omega) (by omega)).mp c20
            refine r_iconst (q := 42) (v := nI 1) X kc_1 dX6_isRow_41 rfl ?_
            refine r_zret X Y (by decide) ?_ dX6_isRow_42
            exact Or.inl ⟨r, rfl, ⟨rfl, hr10, fun p2 h2 => hp2 p2 (by omega)⟩, rfl, rfl⟩
          · replace c20 : ¬ n ≤ p := fun h => c20 ((nI_leI (by omega) (by omega)).mpr h)
            refine r_iload_n (q := 24) (i := 0) (j := 0) (x := nI (n)) X rfl rfl dX6_isRow_23 rfl ?_
            refine r_iload_n (q := 25) (i := 1) (j := 1) (x := nI (r)) X rfl rfl dX6_isRow_24 rfl ?_
            refine r_iload_n (q := 26) (i := 2) (j := 2) (x := nI (p)) X rfl rfl dX6_isRow_25 rfl ?_
            refine r_callSi (q := 29) X (c_figure K.2.1 G base Mx Lx n r p (by omega) (by omega) hr) ks_RX6_175 (by decide) (by decide) ⟨Nat.zero_le _, Nat.zero_le _⟩ rfl (Nat.le_of_ble_eq_true rfl) dX6_isRow_26 rfl (fun r M1 L1 hp => ?_)
            obtain ⟨e1, e2, e3⟩ := hp
            subst e1
            replace e2 := e2.symm
            subst e2
            replace e3 := e3.symm
            subst e3
            have hdg : dg n r p < 10 := Nat.mod_lt _ (by decide)
            refine r_iconst (q := 30) (v := nI 3) X kc_3 dX6_isRow_29 rfl ?_
            refine r_icmp_le (q := 33) (tgt := 35) X (by decide) dX6_isRow_30 rfl (fun c30 => ?_) (fun c30 => ?_)
            · replace c30 : (dg n r p) ≤ 3 := (nI_leI (by omega) (by omega)).mp c30
              refine r_iinc (q := 38) (i := 2) (x := nI (p)) (v := nI (p + 1)) X rfl (Nat.le_of_ble_eq_true rfl) (kinc 1 rfl) dX6_isRow_35 rfl ?_
              refine r_goto (tgt := 18) X (by decide) dX6_isRow_38 ?_
              refine r_pl [(0, .int (nI (n))), (1, .int (nI (r))), (2, .int (nI (p + 1)))] ⟨rfl, rfl, rfl, trivial⟩ ?_
              exact ih (p + 1) (by omega) (by omega) (fun p2 h2 => by rcases Nat.lt_or_ge p2 p with h | h; exact hp2 p2 h; obtain rfl : p2 = p := (by omega); omega)
            · replace c30 : ¬ (dg n r p) ≤ 3 := fun h => c30 ((nI_leI (by omega) (by omega)).mpr h)
              refine r_iconst (q := 34) (v := nI 0) X kc_0 dX6_isRow_33 rfl ?_
              refine r_zret X Y (by decide) ?_ dX6_isRow_34
              refine Or.inr ⟨rfl, fun r2 hr2 => ?_, rfl, rfl⟩
              obtain ⟨h1, h2, h3⟩ := hr2
              have h4 := (kI_eq hr (by omega)).mp h1
              subst h4
              have h5 := h3 p (by omega)
              omega
      refine r_pl [(0, .int (nI (n))), (1, .int (nI (r))), (2, .int (nI (0)))] ⟨rfl, rfl, rfl, trivial⟩ ?_
      exact lp (n + 1) 0 (by omega) (by omega) (fun p2 h => absurd h (Nat.not_lt_zero _))
    · replace c11 : ¬ r < (10 ^ n) := fun h => c11 ((nI_ltI (by omega) (by omega)).mpr h)
      refine r_iconst (q := 15) (v := nI 0) X kc_0 dX6_isRow_14 rfl ?_
      refine r_zret X Y (by decide) ?_ dX6_isRow_15
      refine Or.inr ⟨rfl, fun r2 hr2 => ?_, rfl, rfl⟩
      obtain ⟨h1, h2, -⟩ := hr2
      have h3 := (kI_eq hr (by omega)).mp h1
      omega
end
section
/-! THE REFERENCE's leaves, and bits counted -/
theorem kw_RJ6_265 : Jvm.Cond.constant RJ6 265 1431655765 ∈ ks_all := kw 407 (by decide +kernel)
theorem kw_RJ6_266 : Jvm.Cond.constant RJ6 266 858993459 ∈ ks_all := kw 408 (by decide +kernel)
theorem kw_RJ6_267 : Jvm.Cond.constant RJ6 267 252645135 ∈ ks_all := kw 409 (by decide +kernel)
theorem kb_16 : (Int8.ofInt (16)).toInt32 = nI 16 := by decide
theorem kb_63 : (Int8.ofInt (63)).toInt32 = nI 63 := by decide
def cpk (M : ks_M) (a b k : Nat) : ks_M := fun r c => if r = b ∧ c < k then M a c else M r c
theorem cpk_0 (M : ks_M) (a b : Nat) : M = cpk M a b 0 := by funext r c; simp [cpk]
theorem cpk_o {M : ks_M} {a b k c : Nat} (h : a ≠ b) : cpk M a b k a c = M a c := by simp [cpk, h]
theorem cpk_s (M : ks_M) (a b k : Nat) : up2 (cpk M a b k) b k (M a k) = cpk M a b (k + 1) := by
  funext r c
  by_cases hr : r = b
  · by_cases hc : c = k
    · simp [up2, cpk, hr, hc]
    · by_cases h2 : c < k
      · simp [up2, cpk, hr, hc, h2, Nat.lt_succ_of_lt h2]
      · simp [up2, cpk, hr, hc, h2, show ¬ c < k + 1 by omega]
  · simp [up2, cpk, hr]
set_option maxHeartbeats 8000000 in
theorem c_copy7 (l : Launch) (G : ks_G) (base : Nat) (Mx : ks_M) (Lx : ks_L) (a b : Nat) (ha : SH[a]? = some (1, 12, [])) (hb : SH[b]? = some (1, 12, [])) (hab : a ≠ b) : KV l G base 0 0 0 yX7_copy cX7_copy 3 [.ref (base + a), .ref (base + b)] SH SH Mx Lx (fun M1 L1 => M1 = cpk Mx a b 12 ∧ L1 = Lx) := by
  refine k_metv (by decide) (Nat.le_of_ble_eq_true rfl) (fun K hK hRm X Y => ?_)
  subst hK
  have lp : ∀ (fuel : Nat) (k : Nat), 12 - k < fuel → (k ≤ 12) → RN K G base 3 0 0 SH ((cpk Mx a b k)) Lx 2 [(0, .ref (base + a)), (1, .ref (base + b)), (2, .int (nI (k)))] [] := by
    intro fuel
    induction fuel with
    | zero => intro k hfu; exact absurd hfu (Nat.not_lt_zero _)
    | succ fuel ih =>
      intro k hfu hk
      refine r_iload_n (q := 3) (i := 2) (j := 2) (x := nI (k)) X rfl rfl dX7_copy_2 rfl ?_
      refine r_bipush (q := 5) (v := nI 12) X kb_12 dX7_copy_3 rfl ?_
      refine r_icmp_ge (q := 8) (tgt := 20) X (by decide) dX7_copy_5 rfl (fun c5 => ?_) (fun c5 => ?_)
      · replace c5 : 12 ≤ k := (nI_leI (by omega) (by omega)).mp c5
        refine r_vret X Y ?_ dX7_copy_20
        exact ⟨by rw [show k = 12 by omega], rfl⟩
      · replace c5 : ¬ 12 ≤ k := fun h => c5 ((nI_leI (by omega) (by omega)).mpr h)
        refine r_aload_n (q := 9) (i := 1) (j := 1) (x := base + b) X rfl rfl dX7_copy_8 rfl ?_
        refine r_iload_n (q := 10) (i := 2) (j := 2) (x := nI (k)) X rfl rfl dX7_copy_9 rfl ?_
        refine r_aload_n (q := 11) (i := 0) (j := 0) (x := base + a) X rfl rfl dX7_copy_10 rfl ?_
        refine r_iload_n (q := 12) (i := 2) (j := 2) (x := nI (k)) X rfl rfl dX7_copy_11 rfl ?_
        refine r_iald (q := 13) (i := a) (j := k) (v := Mx a k) X ha (by omega) (Nat.le_of_ble_eq_true rfl) (cpk_o hab) dX7_copy_12 rfl ?_
        refine r_iast (q := 14) (i := b) (j := k) (v := Mx a k) X hb (by omega) (Nat.le_of_ble_eq_true rfl) dX7_copy_13 rfl ?_
        refine r_iinc (q := 17) (i := 2) (x := nI (k)) (v := nI (k + 1)) X rfl (Nat.le_of_ble_eq_true rfl) (kinc 1 rfl) dX7_copy_14 rfl ?_
        refine r_goto (tgt := 2) X (by decide) dX7_copy_17 ?_
        refine r_pl [(0, .ref (base + a)), (1, .ref (base + b)), (2, .int (nI (k + 1)))] ⟨rfl, rfl, rfl, trivial⟩ ?_
        exact r_mem _ (cpk_s Mx a b k) (ih (k + 1) (by omega) (by omega))
  refine r_pl [(0, .ref (base + a)), (1, .ref (base + b))] ⟨rfl, rfl, trivial⟩ ?_
  refine r_iconst (q := 1) (v := nI 0) X kc_0 dX7_copy_0 rfl ?_
  refine r_istore_n (q := 2) (i := 2) (j := 2) X rfl (Nat.le_of_ble_eq_true rfl) dX7_copy_1 rfl ?_
  refine r_pl [(0, .ref (base + a)), (1, .ref (base + b)), (2, .int (nI (0)))] ⟨rfl, rfl, rfl, trivial⟩ ?_
  exact r_mem _ (cpk_0 Mx a b) (lp 13 0 (by omega) (by omega))
def mnk (s : Nat) : Nat → Nat
  | 0 => 0
  | k + 1 => mnk s k + (s >>> k &&& 1)
theorem mnk_le (s : Nat) : ∀ k, mnk s k ≤ k
  | 0 => Nat.le_refl 0
  | k + 1 => Nat.add_le_add (mnk_le s k) Nat.and_le_right
set_option maxHeartbeats 8000000 in
theorem c_many (l : Launch) (G : ks_G) (base : Nat) (Mx : ks_M) (Lx : ks_L) (s : Nat) (hs : s < 2147483648) : KI l G base 0 yX7_many cX7_many 3 .int [.int (nI (s))] SH Mx Lx (fun rr M1 L1 => rr = nI (mnk s 6) ∧ M1 = Mx ∧ L1 = Lx) := by
  refine k_meti (by decide) (Nat.le_of_ble_eq_true rfl) (fun K hK X Y => ?_)
  subst hK
  have lp : ∀ (fuel : Nat) (k : Nat), 6 - k < fuel → (k ≤ 6) → RN K G base 3 0 0 SH Mx Lx 4 [(0, .int (nI (s))), (1, .int (nI (mnk s k))), (2, .int (nI (k)))] [] := by
    intro fuel
    induction fuel with
    | zero => intro k hfu; exact absurd hfu (Nat.not_lt_zero _)
    | succ fuel ih =>
      intro k hfu hk
      refine r_iload_n (q := 5) (i := 2) (j := 2) (x := nI (k)) X rfl rfl dX7_many_4 rfl ?_
      refine r_bipush (q := 7) (v := nI 6) X kb_6 dX7_many_5 rfl ?_
      refine r_icmp_ge (q := 10) (tgt := 24) X (by decide) dX7_many_7 rfl (fun c7 => ?_) (fun c7 => ?_)
      · replace c7 : 6 ≤ k := (nI_leI (by omega) (by omega)).mp c7
        refine r_iload_n (q := 25) (i := 1) (j := 1) (x := nI (mnk s k)) X rfl rfl dX7_many_24 rfl ?_
        refine r_iret X Y ?_ dX7_many_25
        exact ⟨by rw [show k = 6 by omega], rfl, rfl⟩
      · replace c7 : ¬ 6 ≤ k := fun h => c7 ((nI_leI (by omega) (by omega)).mpr h)
        refine r_iload_n (q := 11) (i := 1) (j := 1) (x := nI (mnk s k)) X rfl rfl dX7_many_10 rfl ?_
        refine r_iload_n (q := 12) (i := 0) (j := 0) (x := nI (s)) X rfl rfl dX7_many_11 rfl ?_
        refine r_iload_n (q := 13) (i := 2) (j := 2) (x := nI (k)) X rfl rfl dX7_many_12 rfl ?_
        refine r_ishrR (q := 14) (x := nI (s)) (y := nI (k)) (v := nI (s >>> k)) X (k_shr hs (by omega)) dX7_many_13 rfl ?_
        refine r_iconst (q := 15) (v := nI 1) X kc_1 dX7_many_14 rfl ?_
        refine r_iandR (q := 16) (x := nI (s >>> k)) (y := nI 1) (v := nI ((s >>> k) &&& 1)) X (fa_and _ _) dX7_many_15 rfl ?_
        refine r_iaddR (q := 17) (x := nI (mnk s k)) (y := nI ((s >>> k) &&& 1)) (v := nI ((mnk s k) + ((s >>> k) &&& 1))) X (nI_add _ _) dX7_many_16 rfl ?_
        refine r_istore_n (q := 18) (i := 1) (j := 1) X rfl (Nat.le_of_ble_eq_true rfl) dX7_many_17 rfl ?_
        refine r_iinc (q := 21) (i := 2) (x := nI (k)) (v := nI (k + 1)) X rfl (Nat.le_of_ble_eq_true rfl) (kinc 1 rfl) dX7_many_18 rfl ?_
        refine r_goto (tgt := 4) X (by decide) dX7_many_21 ?_
        refine r_pl [(0, .int (nI (s))), (1, .int (nI (mnk s (k + 1)))), (2, .int (nI (k + 1)))] ⟨rfl, rfl, rfl, trivial⟩ ?_
        exact ih (k + 1) (by omega) (by omega)
  refine r_pl [(0, .int (nI (s)))] ⟨rfl, trivial⟩ ?_
  refine r_iconst (q := 1) (v := nI 0) X kc_0 dX7_many_0 rfl ?_
  refine r_istore_n (q := 2) (i := 1) (j := 1) X rfl (Nat.le_of_ble_eq_true rfl) dX7_many_1 rfl ?_
  refine r_iconst (q := 3) (v := nI 0) X kc_0 dX7_many_2 rfl ?_
  refine r_istore_n (q := 4) (i := 2) (j := 2) X rfl (Nat.le_of_ble_eq_true rfl) dX7_many_3 rfl ?_
  refine r_pl [(0, .int (nI (s))), (1, .int (nI (mnk s 0))), (2, .int (nI (0)))] ⟨rfl, rfl, rfl, trivial⟩ ?_
  exact lp 7 0 (by omega) (by omega)
def kb1 (x : Int32) : Int32 := x - ((x.toUInt32 >>> ((nI 1).toUInt32 &&& Int32.toUInt32 31)).toInt32 &&& 1431655765)
def kb2 (x : Int32) : Int32 := (x &&& 858993459) + ((x.toUInt32 >>> ((nI 2).toUInt32 &&& Int32.toUInt32 31)).toInt32 &&& 858993459)
def kb3 (x : Int32) : Int32 := (x + (x.toUInt32 >>> ((nI 4).toUInt32 &&& Int32.toUInt32 31)).toInt32) &&& 252645135
def kb4 (x : Int32) : Int32 := x + (x.toUInt32 >>> ((nI 8).toUInt32 &&& Int32.toUInt32 31)).toInt32
def kb5 (x : Int32) : Int32 := x + (x.toUInt32 >>> ((nI 16).toUInt32 &&& Int32.toUInt32 31)).toInt32
theorem kb_all : ∀ s, s < 64 → kb5 (kb4 (kb3 (kb2 (kb1 (nI s))))) &&& nI 63 = nI (mnk s 6) := by decide +kernel
set_option maxHeartbeats 8000000 in
theorem c_bits (l : Launch) (G : ks_G) (base : Nat) (Mx : ks_M) (Lx : ks_L) (s : Nat) (hs : s < 64) : KI l G base 0 yJ6_bitCount_0f7a4 cJ6_bitCount_0f7a4 1 .int [.int (nI (s))] SH Mx Lx (fun rr M1 L1 => rr = nI (mnk s 6) ∧ M1 = Mx ∧ L1 = Lx) := by
  refine k_meti (by decide) (Nat.le_of_ble_eq_true rfl) (fun K hK X Y => ?_)
  subst hK
  refine r_pl [(0, .int (nI (s)))] ⟨rfl, trivial⟩ ?_
  refine r_iload_n (q := 1) (i := 0) (j := 0) (x := nI (s)) X rfl rfl dJ6_bitCount_0f7a4_0 rfl ?_
  refine r_iload_n (q := 2) (i := 0) (j := 0) (x := nI (s)) X rfl rfl dJ6_bitCount_0f7a4_1 rfl ?_
  refine r_iconst (q := 3) (v := nI 1) X kc_1 dJ6_bitCount_0f7a4_2 rfl ?_
  refine r_iushrR (q := 4) (v := ((nI (s)).toUInt32 >>> ((nI 1).toUInt32 &&& Int32.toUInt32 31)).toInt32) X rfl dJ6_bitCount_0f7a4_3 rfl ?_
  refine r_ldcw (q := 7) (v := 1431655765) X kw_RJ6_265 dJ6_bitCount_0f7a4_4 rfl ?_
  refine r_iandR (q := 8) (x := ((nI (s)).toUInt32 >>> ((nI 1).toUInt32 &&& Int32.toUInt32 31)).toInt32) (y := 1431655765) (v := (((nI (s)).toUInt32 >>> ((nI 1).toUInt32 &&& Int32.toUInt32 31)).toInt32) &&& (1431655765)) X rfl dJ6_bitCount_0f7a4_7 rfl ?_
  refine r_isubR (q := 9) (x := nI (s)) (y := (((nI (s)).toUInt32 >>> ((nI 1).toUInt32 &&& Int32.toUInt32 31)).toInt32) &&& (1431655765)) (v := kb1 (nI (s))) X rfl dJ6_bitCount_0f7a4_8 rfl ?_
  refine r_istore_n (q := 10) (i := 0) (j := 0) X rfl (Nat.le_of_ble_eq_true rfl) dJ6_bitCount_0f7a4_9 rfl ?_
  refine r_iload_n (q := 11) (i := 0) (j := 0) (x := kb1 (nI (s))) X rfl rfl dJ6_bitCount_0f7a4_10 rfl ?_
  refine r_ldcw (q := 14) (v := 858993459) X kw_RJ6_266 dJ6_bitCount_0f7a4_11 rfl ?_
  refine r_iandR (q := 15) (x := kb1 (nI (s))) (y := 858993459) (v := (kb1 (nI (s))) &&& (858993459)) X rfl dJ6_bitCount_0f7a4_14 rfl ?_
  refine r_iload_n (q := 16) (i := 0) (j := 0) (x := kb1 (nI (s))) X rfl rfl dJ6_bitCount_0f7a4_15 rfl ?_
  refine r_iconst (q := 17) (v := nI 2) X kc_2 dJ6_bitCount_0f7a4_16 rfl ?_
  refine r_iushrR (q := 18) (v := ((kb1 (nI (s))).toUInt32 >>> ((nI 2).toUInt32 &&& Int32.toUInt32 31)).toInt32) X rfl dJ6_bitCount_0f7a4_17 rfl ?_
  refine r_ldcw (q := 21) (v := 858993459) X kw_RJ6_266 dJ6_bitCount_0f7a4_18 rfl ?_
  refine r_iandR (q := 22) (x := ((kb1 (nI (s))).toUInt32 >>> ((nI 2).toUInt32 &&& Int32.toUInt32 31)).toInt32) (y := 858993459) (v := (((kb1 (nI (s))).toUInt32 >>> ((nI 2).toUInt32 &&& Int32.toUInt32 31)).toInt32) &&& (858993459)) X rfl dJ6_bitCount_0f7a4_21 rfl ?_
  refine r_iaddR (q := 23) (x := (kb1 (nI (s))) &&& (858993459)) (y := (((kb1 (nI (s))).toUInt32 >>> ((nI 2).toUInt32 &&& Int32.toUInt32 31)).toInt32) &&& (858993459)) (v := kb2 (kb1 (nI (s)))) X rfl dJ6_bitCount_0f7a4_22 rfl ?_
  refine r_istore_n (q := 24) (i := 0) (j := 0) X rfl (Nat.le_of_ble_eq_true rfl) dJ6_bitCount_0f7a4_23 rfl ?_
  refine r_iload_n (q := 25) (i := 0) (j := 0) (x := kb2 (kb1 (nI (s)))) X rfl rfl dJ6_bitCount_0f7a4_24 rfl ?_
  refine r_iload_n (q := 26) (i := 0) (j := 0) (x := kb2 (kb1 (nI (s)))) X rfl rfl dJ6_bitCount_0f7a4_25 rfl ?_
  refine r_iconst (q := 27) (v := nI 4) X kc_4 dJ6_bitCount_0f7a4_26 rfl ?_
  refine r_iushrR (q := 28) (v := ((kb2 (kb1 (nI (s)))).toUInt32 >>> ((nI 4).toUInt32 &&& Int32.toUInt32 31)).toInt32) X rfl dJ6_bitCount_0f7a4_27 rfl ?_
  refine r_iaddR (q := 29) (x := kb2 (kb1 (nI (s)))) (y := ((kb2 (kb1 (nI (s)))).toUInt32 >>> ((nI 4).toUInt32 &&& Int32.toUInt32 31)).toInt32) (v := (kb2 (kb1 (nI (s)))) + (((kb2 (kb1 (nI (s)))).toUInt32 >>> ((nI 4).toUInt32 &&& Int32.toUInt32 31)).toInt32)) X rfl dJ6_bitCount_0f7a4_28 rfl ?_
  refine r_ldcw (q := 32) (v := 252645135) X kw_RJ6_267 dJ6_bitCount_0f7a4_29 rfl ?_
  refine r_iandR (q := 33) (x := (kb2 (kb1 (nI (s)))) + (((kb2 (kb1 (nI (s)))).toUInt32 >>> ((nI 4).toUInt32 &&& Int32.toUInt32 31)).toInt32)) (y := 252645135) (v := kb3 (kb2 (kb1 (nI (s))))) X rfl dJ6_bitCount_0f7a4_32 rfl ?_
  refine r_istore_n (q := 34) (i := 0) (j := 0) X rfl (Nat.le_of_ble_eq_true rfl) dJ6_bitCount_0f7a4_33 rfl ?_
  refine r_iload_n (q := 35) (i := 0) (j := 0) (x := kb3 (kb2 (kb1 (nI (s))))) X rfl rfl dJ6_bitCount_0f7a4_34 rfl ?_
  refine r_iload_n (q := 36) (i := 0) (j := 0) (x := kb3 (kb2 (kb1 (nI (s))))) X rfl rfl dJ6_bitCount_0f7a4_35 rfl ?_
  refine r_bipush (q := 38) (v := nI 8) X kb_8 dJ6_bitCount_0f7a4_36 rfl ?_
  refine r_iushrR (q := 39) (v := ((kb3 (kb2 (kb1 (nI (s))))).toUInt32 >>> ((nI 8).toUInt32 &&& Int32.toUInt32 31)).toInt32) X rfl dJ6_bitCount_0f7a4_38 rfl ?_
  refine r_iaddR (q := 40) (x := kb3 (kb2 (kb1 (nI (s))))) (y := ((kb3 (kb2 (kb1 (nI (s))))).toUInt32 >>> ((nI 8).toUInt32 &&& Int32.toUInt32 31)).toInt32) (v := (kb3 (kb2 (kb1 (nI (s))))) + (((kb3 (kb2 (kb1 (nI (s))))).toUInt32 >>> ((nI 8).toUInt32 &&& Int32.toUInt32 31)).toInt32)) X rfl dJ6_bitCount_0f7a4_39 rfl ?_
  refine r_istore_n (q := 41) (i := 0) (j := 0) X rfl (Nat.le_of_ble_eq_true rfl) dJ6_bitCount_0f7a4_40 rfl ?_
  refine r_iload_n (q := 42) (i := 0) (j := 0) (x := (kb3 (kb2 (kb1 (nI (s))))) + (((kb3 (kb2 (kb1 (nI (s))))).toUInt32 >>> ((nI 8).toUInt32 &&& Int32.toUInt32 31)).toInt32)) X rfl rfl dJ6_bitCount_0f7a4_41 rfl ?_
  refine r_iload_n (q := 43) (i := 0) (j := 0) (x := (kb3 (kb2 (kb1 (nI (s))))) + (((kb3 (kb2 (kb1 (nI (s))))).toUInt32 >>> ((nI 8).toUInt32 &&& Int32.toUInt32 31)).toInt32)) X rfl rfl dJ6_bitCount_0f7a4_42 rfl ?_
  refine r_bipush (q := 45) (v := nI 16) X kb_16 dJ6_bitCount_0f7a4_43 rfl ?_
  refine r_iushrR (q := 46) (v := (((kb3 (kb2 (kb1 (nI (s))))) + (((kb3 (kb2 (kb1 (nI (s))))).toUInt32 >>> ((nI 8).toUInt32 &&& Int32.toUInt32 31)).toInt32)).toUInt32 >>> ((nI 16).toUInt32 &&& Int32.toUInt32 31)).toInt32) X rfl dJ6_bitCount_0f7a4_45 rfl ?_
  refine r_iaddR (q := 47) (x := (kb3 (kb2 (kb1 (nI (s))))) + (((kb3 (kb2 (kb1 (nI (s))))).toUInt32 >>> ((nI 8).toUInt32 &&& Int32.toUInt32 31)).toInt32)) (y := (((kb3 (kb2 (kb1 (nI (s))))) + (((kb3 (kb2 (kb1 (nI (s))))).toUInt32 >>> ((nI 8).toUInt32 &&& Int32.toUInt32 31)).toInt32)).toUInt32 >>> ((nI 16).toUInt32 &&& Int32.toUInt32 31)).toInt32) (v := ((kb3 (kb2 (kb1 (nI (s))))) + (((kb3 (kb2 (kb1 (nI (s))))).toUInt32 >>> ((nI 8).toUInt32 &&& Int32.toUInt32 31)).toInt32)) + ((((kb3 (kb2 (kb1 (nI (s))))) + (((kb3 (kb2 (kb1 (nI (s))))).toUInt32 >>> ((nI 8).toUInt32 &&& Int32.toUInt32 31)).toInt32)).toUInt32 >>> ((nI 16).toUInt32 &&& Int32.toUInt32 31)).toInt32)) X rfl dJ6_bitCount_0f7a4_46 rfl ?_
  refine r_istore_n (q := 48) (i := 0) (j := 0) X rfl (Nat.le_of_ble_eq_true rfl) dJ6_bitCount_0f7a4_47 rfl ?_
  refine r_iload_n (q := 49) (i := 0) (j := 0) (x := ((kb3 (kb2 (kb1 (nI (s))))) + (((kb3 (kb2 (kb1 (nI (s))))).toUInt32 >>> ((nI 8).toUInt32 &&& Int32.toUInt32 31)).toInt32)) + ((((kb3 (kb2 (kb1 (nI (s))))) + (((kb3 (kb2 (kb1 (nI (s))))).toUInt32 >>> ((nI 8).toUInt32 &&& Int32.toUInt32 31)).toInt32)).toUInt32 >>> ((nI 16).toUInt32 &&& Int32.toUInt32 31)).toInt32)) X rfl rfl dJ6_bitCount_0f7a4_48 rfl ?_
  refine r_bipush (q := 51) (v := nI 63) X kb_63 dJ6_bitCount_0f7a4_49 rfl ?_
  refine r_iandR (q := 52) (x := ((kb3 (kb2 (kb1 (nI (s))))) + (((kb3 (kb2 (kb1 (nI (s))))).toUInt32 >>> ((nI 8).toUInt32 &&& Int32.toUInt32 31)).toInt32)) + ((((kb3 (kb2 (kb1 (nI (s))))) + (((kb3 (kb2 (kb1 (nI (s))))).toUInt32 >>> ((nI 8).toUInt32 &&& Int32.toUInt32 31)).toInt32)).toUInt32 >>> ((nI 16).toUInt32 &&& Int32.toUInt32 31)).toInt32)) (y := nI 63) (v := (((kb3 (kb2 (kb1 (nI (s))))) + (((kb3 (kb2 (kb1 (nI (s))))).toUInt32 >>> ((nI 8).toUInt32 &&& Int32.toUInt32 31)).toInt32)) + ((((kb3 (kb2 (kb1 (nI (s))))) + (((kb3 (kb2 (kb1 (nI (s))))).toUInt32 >>> ((nI 8).toUInt32 &&& Int32.toUInt32 31)).toInt32)).toUInt32 >>> ((nI 16).toUInt32 &&& Int32.toUInt32 31)).toInt32)) &&& (nI 63)) X rfl dJ6_bitCount_0f7a4_51 rfl ?_
  refine r_iret X Y ?_ dJ6_bitCount_0f7a4_52
  exact ⟨kb_all s hs, rfl, rfl⟩
theorem kN_sub {n : Nat} (h : n < 1000) : (nI n - nI 1).toInt = (n : Int) - 1 := pk_sub_toInt (by omega) (by decide)
theorem k_m1 {a : Nat} (h : 0 < a) : nI a + (-1) = nI (a - 1) := by
  obtain ⟨b, rfl⟩ : ∃ b, a = b + 1 := ⟨a - 1, by omega⟩
  rw [pk_m1, Nat.add_sub_cancel]
set_option maxHeartbeats 8000000 in
theorem c_noHouse (l : Launch) (G : ks_G) (base : Nat) (Mx : ks_M) (Lx : ks_L) (x : Int32) (hn : Mx 44 4 ≤ 6) : KI l G base 1 yX7_noHouse cX7_noHouse 2 .boolean [.ref (base + 44), .int (x)] SH Mx Lx (fun rr M1 L1 => (∃ k, rr = nI 0 ∧ k < Mx 44 4 ∧ x = nI k ∧ M1 = Mx ∧ L1 = Lx) ∨ (rr = nI 1 ∧ (∀ k, k < Mx 44 4 → x ≠ nI k) ∧ M1 = Mx ∧ L1 = Lx)) := by
  refine k_meti (by decide) (Nat.le_of_ble_eq_true rfl) (fun K hK X Y => ?_)
  subst hK
  refine r_pl [(0, .ref (base + 44)), (1, .int (x))] ⟨rfl, rfl, trivial⟩ ?_
  refine r_iload_n (q := 1) (i := 1) (j := 1) (x := x) X rfl rfl dX7_noHouse_0 rfl ?_
  refine r_i2l (q := 2) (v := x.toInt64) X rfl dX7_noHouse_1 rfl ?_
  refine r_lconst (q := 3) (v := 0) X rfl dX7_noHouse_2 rfl ?_
  refine r_aload_n (q := 4) (i := 0) (j := 0) (x := base + 44) X rfl rfl dX7_noHouse_3 rfl ?_
  refine r_getf (q := 7) (i := 44) (v := .int (nI (Mx 44 4))) X fk_X7_63 kh_44 rfl rfl dX7_noHouse_4 rfl ?_
  refine r_iconst (q := 8) (v := nI 1) X kc_1 dX7_noHouse_7 rfl ?_
  refine r_isubR (q := 9) (x := nI (Mx 44 4)) (y := nI 1) (v := (nI (Mx 44 4)) - (nI 1)) X rfl dX7_noHouse_8 rfl ?_
  refine r_i2l (q := 10) (v := (((nI (Mx 44 4)) - (nI 1)).toInt64)) X rfl dX7_noHouse_9 rfl ?_
  refine r_callSi (q := 13) X (c_in K.2.1 G base Mx Lx x.toInt64 0 (((nI (Mx 44 4)) - (nI 1)).toInt64)) ks_RX7_66 (by decide) (by decide) ⟨Nat.zero_le _, Nat.zero_le _⟩ rfl (Nat.le_of_ble_eq_true rfl) dX7_noHouse_10 rfl (fun r M1 L1 hp => ?_)
  rcases hp with ⟨e1, hin, hp2⟩ | ⟨e1, hin, hp2⟩
  · subst e1
    obtain ⟨e2, e3⟩ := hp2
    replace e2 := e2.symm
    subst e2
    replace e3 := e3.symm
    subst e3
    refine r_if_ne (q := 16) (tgt := 20) X (by decide) dX7_noHouse_13 rfl (fun _ => ?_) (fun c => absurd c (by decide))
    refine r_iconst (q := 21) (v := nI 0) X kc_0 dX7_noHouse_20 rfl ?_
    refine r_zret X Y (by decide) ?_ dX7_noHouse_21
    have hk := kIn (x := x) (y := 0) (z := (nI (Mx 44 4) - nI 1).toInt64) (a := 0) (b := (Mx 44 4 : Int) - 1) rfl (by rw [Int32.toInt_toInt64, kN_sub (by omega)]) (by omega) (by omega)
    rw [hk] at hin
    first
    | (obtain ⟨k, -, h2, h3⟩ := hin; exact Or.inl ⟨k, rfl, by omega, h3, rfl, rfl⟩)
    | exact Or.inr ⟨rfl, fun k h2 h3 => hin ⟨k, by omega, by omega, h3⟩, rfl, rfl⟩
  · subst e1
    obtain ⟨e2, e3⟩ := hp2
    replace e2 := e2.symm
    subst e2
    replace e3 := e3.symm
    subst e3
    refine r_if_ne (q := 16) (tgt := 20) X (by decide) dX7_noHouse_13 rfl (fun c => absurd c (by decide)) (fun _ => ?_)
    refine r_iconst (q := 17) (v := nI 1) X kc_1 dX7_noHouse_16 rfl ?_
    refine r_goto (tgt := 21) X (by decide) dX7_noHouse_17 ?_
    refine r_zret X Y (by decide) ?_ dX7_noHouse_21
    have hk := kIn (x := x) (y := 0) (z := (nI (Mx 44 4) - nI 1).toInt64) (a := 0) (b := (Mx 44 4 : Int) - 1) rfl (by rw [Int32.toInt_toInt64, kN_sub (by omega)]) (by omega) (by omega)
    rw [hk] at hin
    first
    | (obtain ⟨k, -, h2, h3⟩ := hin; exact Or.inl ⟨k, rfl, by omega, h3, rfl, rfl⟩)
    | exact Or.inr ⟨rfl, fun k h2 h3 => hin ⟨k, by omega, by omega, h3⟩, rfl, rfl⟩
def sg7 (M : ks_M) (y : Nat → Nat) (h t : Nat) : Nat := if hsb (y 4) h = 1 then (if hsb (y 5) h = 0 then shw (M 46 h) (M 47 (3 * h + t % 3)) t else 0) else 0
theorem hsb_2 (s k : Nat) : hsb s k < 2 := by unfold hsb; split <;> omega
set_option maxHeartbeats 8000000 in
theorem c_sight7 (l : Launch) (G : ks_G) (base : Nat) (Mx : ks_M) (Lx : ks_L) (p h t : Nat) (hp : SH[p]? = some (1, 12, [])) (hh : h < 6) (ht : t < 2147483648) (h4 : Mx p 4 < 2147483648) (h5 : Mx p 5 < 2147483648) (hs : Mx 46 h < 2147483648) (hnw : ∀ k, Mx 47 k < 1000) : KI l G base 1 yX7_sightOf cX7_sightOf 5 .int [.ref (base + 44), .ref (base + p), .int (nI (h)), .int (nI (t))] SH Mx Lx (fun rr M1 L1 => rr = nI (sg7 Mx (Mx p) h t) ∧ M1 = Mx ∧ L1 = Lx) := by
  refine k_meti (by decide) (Nat.le_of_ble_eq_true rfl) (fun K hK X Y => ?_)
  subst hK
  refine r_pl [(0, .ref (base + 44)), (1, .ref (base + p)), (2, .int (nI (h))), (3, .int (nI (t)))] ⟨rfl, rfl, rfl, rfl, trivial⟩ ?_
  refine r_aload_n (q := 1) (i := 1) (j := 1) (x := base + p) X rfl rfl dX7_sightOf_0 rfl ?_
  refine r_iconst (q := 2) (v := nI 4) X kc_4 dX7_sightOf_1 rfl ?_
  refine r_iald (q := 3) (i := p) (j := 4) (v := Mx p 4) X hp (by omega) (Nat.le_of_ble_eq_true rfl) rfl dX7_sightOf_2 rfl ?_
  refine r_iload_n (q := 4) (i := 2) (j := 2) (x := nI (h)) X rfl rfl dX7_sightOf_3 rfl ?_
  refine r_callSi (q := 7) X (c_has7 K.2.1 G base Mx Lx (Mx p 4) h h4 hh) ks_RX7_98 (by decide) (by decide) ⟨Nat.zero_le _, Nat.zero_le _⟩ rfl (Nat.le_of_ble_eq_true rfl) dX7_sightOf_4 rfl (fun r M1 L1 hp => ?_)
  obtain ⟨e1, e2, e3⟩ := hp
  subst e1
  replace e2 := e2.symm
  subst e2
  replace e3 := e3.symm
  subst e3
  have hb4 := hsb_2 (Mx p 4) h
  refine r_if_eq (q := 10) (tgt := 24) X (by decide) dX7_sightOf_7 rfl (fun c7 => ?_) (fun c7 => ?_)
  · replace c7 : (hsb (Mx p 4) h) = 0 := (kI_eq0 (by omega)).mp c7
    refine r_iconst (q := 25) (v := nI 0) X kc_0 dX7_sightOf_24 rfl ?_
    refine r_istore (q := 27) (i := 4) X (Nat.le_of_ble_eq_true rfl) dX7_sightOf_25 rfl ?_
    refine r_iload (q := 29) (i := 4) (x := nI 0) X rfl dX7_sightOf_27 rfl ?_
    refine r_if_eq (q := 32) (tgt := 57) X (by decide) dX7_sightOf_29 rfl (fun _ => ?_) (fun c => absurd c (by decide))
    refine r_iconst (q := 58) (v := nI 0) X kc_0 dX7_sightOf_57 rfl ?_
    refine r_iret X Y ?_ dX7_sightOf_58
    exact ⟨by unfold sg7; (repeat' split) <;> first | rfl | (exfalso; omega), rfl, rfl⟩
  · replace c7 : ¬ (hsb (Mx p 4) h) = 0 := fun h => (c7 ((kI_eq0 (by omega)).mpr h))
    refine r_aload_n (q := 11) (i := 1) (j := 1) (x := base + p) X rfl rfl dX7_sightOf_10 rfl ?_
    refine r_iconst (q := 12) (v := nI 5) X kc_5 dX7_sightOf_11 rfl ?_
    refine r_iald (q := 13) (i := p) (j := 5) (v := Mx p 5) X hp (by omega) (Nat.le_of_ble_eq_true rfl) rfl dX7_sightOf_12 rfl ?_
    refine r_iload_n (q := 14) (i := 2) (j := 2) (x := nI (h)) X rfl rfl dX7_sightOf_13 rfl ?_
    refine r_callSi (q := 17) X (c_has7 K.2.1 G base Mx Lx (Mx p 5) h h5 hh) ks_RX7_98 (by decide) (by decide) ⟨Nat.zero_le _, Nat.zero_le _⟩ rfl (Nat.le_of_ble_eq_true rfl) dX7_sightOf_14 rfl (fun r M1 L1 hp => ?_)
    obtain ⟨e1, e2, e3⟩ := hp
    subst e1
    replace e2 := e2.symm
    subst e2
    replace e3 := e3.symm
    subst e3
    have hb5 := hsb_2 (Mx p 5) h
    refine r_if_ne (q := 20) (tgt := 24) X (by decide) dX7_sightOf_17 rfl (fun c17 => ?_) (fun c17 => ?_)
    · replace c17 : ¬ (hsb (Mx p 5) h) = 0 := fun h => c17 ((kI_eq0 (by omega)).mpr h)
      refine r_iconst (q := 25) (v := nI 0) X kc_0 dX7_sightOf_24 rfl ?_
      refine r_istore (q := 27) (i := 4) X (Nat.le_of_ble_eq_true rfl) dX7_sightOf_25 rfl ?_
      refine r_iload (q := 29) (i := 4) (x := nI 0) X rfl dX7_sightOf_27 rfl ?_
      refine r_if_eq (q := 32) (tgt := 57) X (by decide) dX7_sightOf_29 rfl (fun _ => ?_) (fun c => absurd c (by decide))
      refine r_iconst (q := 58) (v := nI 0) X kc_0 dX7_sightOf_57 rfl ?_
      refine r_iret X Y ?_ dX7_sightOf_58
      exact ⟨by unfold sg7; (repeat' split) <;> first | rfl | (exfalso; omega), rfl, rfl⟩
    · replace c17 : (hsb (Mx p 5) h) = 0 := (kI_eq0 (by omega)).mp c17
      refine r_iconst (q := 21) (v := nI 1) X kc_1 dX7_sightOf_20 rfl ?_
      refine r_goto (tgt := 25) X (by decide) dX7_sightOf_21 ?_
      refine r_istore (q := 27) (i := 4) X (Nat.le_of_ble_eq_true rfl) dX7_sightOf_25 rfl ?_
      refine r_iload (q := 29) (i := 4) (x := nI 1) X rfl dX7_sightOf_27 rfl ?_
      refine r_if_eq (q := 32) (tgt := 57) X (by decide) dX7_sightOf_29 rfl (fun c => absurd c (by decide)) (fun _ => ?_)
      refine r_aload_n (q := 33) (i := 0) (j := 0) (x := base + 44) X rfl rfl dX7_sightOf_32 rfl ?_
      refine r_getf (q := 36) (i := 44) (v := .ref (base + 46)) X fk_X7_13 kh_44 rfl rfl dX7_sightOf_33 rfl ?_
      refine r_iload_n (q := 37) (i := 2) (j := 2) (x := nI (h)) X rfl rfl dX7_sightOf_36 rfl ?_
      refine r_iald (q := 38) (i := 46) (j := h) (v := Mx 46 h) X kh_46 (by omega) (Nat.le_of_ble_eq_true rfl) rfl dX7_sightOf_37 rfl ?_
      refine r_aload_n (q := 39) (i := 0) (j := 0) (x := base + 44) X rfl rfl dX7_sightOf_38 rfl ?_
      refine r_getf (q := 42) (i := 44) (v := .ref (base + 47)) X fk_X7_16 kh_44 rfl rfl dX7_sightOf_39 rfl ?_
      refine r_iconst (q := 43) (v := nI 3) X kc_3 dX7_sightOf_42 rfl ?_
      refine r_iload_n (q := 44) (i := 2) (j := 2) (x := nI (h)) X rfl rfl dX7_sightOf_43 rfl ?_
      refine r_imulR (q := 45) (x := nI 3) (y := nI (h)) (v := nI (3 * h)) X (pk_mul _ _) dX7_sightOf_44 rfl ?_
      refine r_iload_n (q := 46) (i := 3) (j := 3) (x := nI (t)) X rfl rfl dX7_sightOf_45 rfl ?_
      refine r_iconst (q := 47) (v := nI 3) X kc_3 dX7_sightOf_46 rfl ?_
      refine r_iremR (q := 48) (x := nI (t)) (y := nI 3) (v := nI (t % 3)) X (by decide) (pk_rem (by omega) (by omega) (by omega)) dX7_sightOf_47 rfl ?_
      refine r_iaddR (q := 49) (x := nI (3 * h)) (y := nI (t % 3)) (v := nI ((3 * h) + (t % 3))) X (nI_add _ _) dX7_sightOf_48 rfl ?_
      refine r_iald (q := 50) (i := 47) (j := (3 * h) + (t % 3)) (v := Mx 47 ((3 * h) + (t % 3))) X kh_47 (by omega) (Nat.le_of_ble_eq_true rfl) rfl dX7_sightOf_49 rfl ?_
      refine r_iload_n (q := 51) (i := 3) (j := 3) (x := nI (t)) X rfl rfl dX7_sightOf_50 rfl ?_
      refine r_callSi (q := 54) X (c_shows7 K.2.1 G base Mx Lx (Mx 46 h) (Mx 47 (3 * h + t % 3)) t hs (hnw _) ht) ks_RX7_102 (by decide) (by decide) ⟨Nat.zero_le _, Nat.zero_le _⟩ rfl (Nat.le_of_ble_eq_true rfl) dX7_sightOf_51 rfl (fun r M1 L1 hp => ?_)
      obtain ⟨e1, e2, e3⟩ := hp
      subst e1
      replace e2 := e2.symm
      subst e2
      replace e3 := e3.symm
      subst e3
      refine r_goto (tgt := 58) X (by decide) dX7_sightOf_54 ?_
      refine r_iret X Y ?_ dX7_sightOf_58
      exact ⟨by unfold sg7; (repeat' split) <;> first | rfl | (exfalso; omega), rfl, rfl⟩
def cn7 (n : Nat) (y : Nat → Nat) (t : Nat) : Nat := if t = 0 then (if 0 < y 0 then 1 else 0) else if t = 1 then (if y 0 + 1 < n then 1 else 0) else if t = 3 then 1 else (if 0 < n ∧ 0 < y 1 then 1 else 0)
set_option maxHeartbeats 8000000 in
theorem c_can7 (l : Launch) (G : ks_G) (base : Nat) (Mx : ks_M) (Lx : ks_L) (p t : Nat) (hp : SH[p]? = some (1, 12, [])) (ht : t < 2147483648) (h0 : Mx p 0 < 1000) (h1 : Mx p 1 < 1000) (hn : Mx 44 4 ≤ 6) : KI l G base 0 yX7_can cX7_can 3 .boolean [.ref (base + 44), .ref (base + p), .int (nI (t))] SH Mx Lx (fun rr M1 L1 => rr = nI (cn7 (Mx 44 4) (Mx p) t) ∧ M1 = Mx ∧ L1 = Lx) := by
  refine k_meti (by decide) (Nat.le_of_ble_eq_true rfl) (fun K hK X Y => ?_)
  subst hK
  refine r_pl [(0, .ref (base + 44)), (1, .ref (base + p)), (2, .int (nI (t)))] ⟨rfl, rfl, rfl, trivial⟩ ?_
  refine r_iload_n (q := 1) (i := 2) (j := 2) (x := nI (t)) X rfl rfl dX7_can_0 rfl ?_
  refine r_if_ne (q := 4) (tgt := 16) X (by decide) dX7_can_1 rfl (fun c1 => ?_) (fun c1 => ?_)
  · replace c1 : ¬ t = 0 := fun h => c1 ((kI_eq0 (by omega)).mpr h)
    refine r_iload_n (q := 17) (i := 2) (j := 2) (x := nI (t)) X rfl rfl dX7_can_16 rfl ?_
    refine r_iconst (q := 18) (v := nI 1) X kc_1 dX7_can_17 rfl ?_
    refine r_icmp_ne (q := 21) (tgt := 39) X (by decide) dX7_can_18 rfl (fun c18 => ?_) (fun c18 => ?_)
    · replace c18 : ¬ t = 1 := fun h => c18 ((kI_eq (by omega) (by omega)).mpr h)
      refine r_iload_n (q := 40) (i := 2) (j := 2) (x := nI (t)) X rfl rfl dX7_can_39 rfl ?_
      refine r_iconst (q := 41) (v := nI 3) X kc_3 dX7_can_40 rfl ?_
      refine r_icmp_eq (q := 44) (tgt := 57) X (by decide) dX7_can_41 rfl (fun c41 => ?_) (fun c41 => ?_)
      · replace c41 : t = 3 := (kI_eq (by omega) (by omega)).mp c41
        refine r_iconst (q := 58) (v := nI 1) X kc_1 dX7_can_57 rfl ?_
        refine r_goto (tgt := 62) X (by decide) dX7_can_58 ?_
        refine r_zret X Y (by decide) ?_ dX7_can_62
        exact ⟨by unfold cn7; (repeat' split) <;> first | rfl | (exfalso; omega), rfl, rfl⟩
      · replace c41 : ¬ t = 3 := fun h => (c41 ((kI_eq (by omega) (by omega)).mpr h))
        refine r_aload_n (q := 45) (i := 0) (j := 0) (x := base + 44) X rfl rfl dX7_can_44 rfl ?_
        refine r_getf (q := 48) (i := 44) (v := .int (nI (Mx 44 4))) X fk_X7_63 kh_44 rfl rfl dX7_can_45 rfl ?_
        refine r_if_le (q := 51) (tgt := 61) X (by decide) dX7_can_48 rfl (fun c48 => ?_) (fun c48 => ?_)
        · replace c48 : (Mx 44 4) ≤ 0 := (kI_le0 (by omega)).mp c48
          refine r_iconst (q := 62) (v := nI 0) X kc_0 dX7_can_61 rfl ?_
          refine r_zret X Y (by decide) ?_ dX7_can_62
          exact ⟨by unfold cn7; (repeat' split) <;> first | rfl | (exfalso; omega), rfl, rfl⟩
        · replace c48 : ¬ (Mx 44 4) ≤ 0 := fun h => c48 ((kI_le0 (by omega)).mpr h)
          refine r_aload_n (q := 52) (i := 1) (j := 1) (x := base + p) X rfl rfl dX7_can_51 rfl ?_
          refine r_iconst (q := 53) (v := nI 1) X kc_1 dX7_can_52 rfl ?_
          refine r_iald (q := 54) (i := p) (j := 1) (v := Mx p 1) X hp (by omega) (Nat.le_of_ble_eq_true rfl) rfl dX7_can_53 rfl ?_
          refine r_if_le (q := 57) (tgt := 61) X (by decide) dX7_can_54 rfl (fun c54 => ?_) (fun c54 => ?_)
          · replace c54 : (Mx p 1) ≤ 0 := (kI_le0 (by omega)).mp c54
            refine r_iconst (q := 62) (v := nI 0) X kc_0 dX7_can_61 rfl ?_
            refine r_zret X Y (by decide) ?_ dX7_can_62
            exact ⟨by unfold cn7; (repeat' split) <;> first | rfl | (exfalso; omega), rfl, rfl⟩
          · replace c54 : ¬ (Mx p 1) ≤ 0 := fun h => c54 ((kI_le0 (by omega)).mpr h)
            refine r_iconst (q := 58) (v := nI 1) X kc_1 dX7_can_57 rfl ?_
            refine r_goto (tgt := 62) X (by decide) dX7_can_58 ?_
            refine r_zret X Y (by decide) ?_ dX7_can_62
            exact ⟨by unfold cn7; (repeat' split) <;> first | rfl | (exfalso; omega), rfl, rfl⟩
    · replace c18 : t = 1 := (kI_eq (by omega) (by omega)).mp c18
      refine r_aload_n (q := 22) (i := 1) (j := 1) (x := base + p) X rfl rfl dX7_can_21 rfl ?_
      refine r_iconst (q := 23) (v := nI 0) X kc_0 dX7_can_22 rfl ?_
      refine r_iald (q := 24) (i := p) (j := 0) (v := Mx p 0) X hp (by omega) (Nat.le_of_ble_eq_true rfl) rfl dX7_can_23 rfl ?_
      refine r_iconst (q := 25) (v := nI 1) X kc_1 dX7_can_24 rfl ?_
      refine r_iaddR (q := 26) (x := nI (Mx p 0)) (y := nI 1) (v := nI ((Mx p 0) + 1)) X (nI_add _ _) dX7_can_25 rfl ?_
      refine r_aload_n (q := 27) (i := 0) (j := 0) (x := base + 44) X rfl rfl dX7_can_26 rfl ?_
      refine r_getf (q := 30) (i := 44) (v := .int (nI (Mx 44 4))) X fk_X7_63 kh_44 rfl rfl dX7_can_27 rfl ?_
      refine r_icmp_ge (q := 33) (tgt := 37) X (by decide) dX7_can_30 rfl (fun c30 => ?_) (fun c30 => ?_)
      · replace c30 : (Mx 44 4) ≤ ((Mx p 0) + 1) := (nI_leI (by omega) (by omega)).mp c30
        refine r_iconst (q := 38) (v := nI 0) X kc_0 dX7_can_37 rfl ?_
        refine r_zret X Y (by decide) ?_ dX7_can_38
        exact ⟨by unfold cn7; (repeat' split) <;> first | rfl | (exfalso; omega), rfl, rfl⟩
      · replace c30 : ¬ (Mx 44 4) ≤ ((Mx p 0) + 1) := fun h => c30 ((nI_leI (by omega) (by omega)).mpr h)
        refine r_iconst (q := 34) (v := nI 1) X kc_1 dX7_can_33 rfl ?_
        refine r_goto (tgt := 38) X (by decide) dX7_can_34 ?_
        refine r_zret X Y (by decide) ?_ dX7_can_38
        exact ⟨by unfold cn7; (repeat' split) <;> first | rfl | (exfalso; omega), rfl, rfl⟩
  · replace c1 : t = 0 := (kI_eq0 (by omega)).mp c1
    refine r_aload_n (q := 5) (i := 1) (j := 1) (x := base + p) X rfl rfl dX7_can_4 rfl ?_
    refine r_iconst (q := 6) (v := nI 0) X kc_0 dX7_can_5 rfl ?_
    refine r_iald (q := 7) (i := p) (j := 0) (v := Mx p 0) X hp (by omega) (Nat.le_of_ble_eq_true rfl) rfl dX7_can_6 rfl ?_
    refine r_if_le (q := 10) (tgt := 14) X (by decide) dX7_can_7 rfl (fun c7 => ?_) (fun c7 => ?_)
    · replace c7 : (Mx p 0) ≤ 0 := (kI_le0 (by omega)).mp c7
      refine r_iconst (q := 15) (v := nI 0) X kc_0 dX7_can_14 rfl ?_
      refine r_zret X Y (by decide) ?_ dX7_can_15
      exact ⟨by unfold cn7; (repeat' split) <;> first | rfl | (exfalso; omega), rfl, rfl⟩
    · replace c7 : ¬ (Mx p 0) ≤ 0 := fun h => c7 ((kI_le0 (by omega)).mpr h)
      refine r_iconst (q := 11) (v := nI 1) X kc_1 dX7_can_10 rfl ?_
      refine r_goto (tgt := 15) X (by decide) dX7_can_11 ?_
      refine r_zret X Y (by decide) ?_ dX7_can_15
      exact ⟨by unfold cn7; (repeat' split) <;> first | rfl | (exfalso; omega), rfl, rfl⟩
theorem k6 (k : Nat) (hk : k < 6) (h : Nat) : ¬ k = 6 + h := by omega
def bt7 (y : Nat → Nat) : Nat := 1 <<< (y 2 % 3)
def gn7 (M : ks_M) (y : Nat → Nat) : Nat := if y (6 + y 0) &&& bt7 y = 0 then sg7 M y (y 0) (y 2) else 0
def tk7 (M : ks_M) (y : Nat → Nat) (t : Nat) : Nat → Nat :=
  if t = 0 then up1 (up1 y 0 (y 0 - 1)) 2 (y 2 + 1) else if t = 1 then up1 (up1 y 0 (y 0 + 1)) 2 (y 2 + 1) else if t = 2 then up1 (up1 (up1 (up1 y (6 + y 0) (y (6 + y 0) ||| bt7 y)) 1 (y 1 - 1)) 3 (y 3 + gn7 M y)) 2 (y 2 + 1) else up1 y 2 (y 2 + 1)
theorem tk7_0 (M : ks_M) (y : Nat → Nat) : tk7 M y 0 = up1 (up1 y 0 (y 0 - 1)) 2 (y 2 + 1) := rfl
theorem tk7_1 (M : ks_M) (y : Nat → Nat) : tk7 M y 1 = up1 (up1 y 0 (y 0 + 1)) 2 (y 2 + 1) := rfl
theorem tk7_2 (M : ks_M) (y : Nat → Nat) : tk7 M y 2 = up1 (up1 (up1 (up1 y (6 + y 0) (y (6 + y 0) ||| bt7 y)) 1 (y 1 - 1)) 3 (y 3 + gn7 M y)) 2 (y 2 + 1) := rfl
theorem tk7_3 (M : ks_M) (y : Nat → Nat) : tk7 M y 3 = up1 y 2 (y 2 + 1) := rfl
set_option maxHeartbeats 8000000 in
theorem c_go7 (l : Launch) (G : ks_G) (base : Nat) (Mx : ks_M) (Lx : ks_L) (p t : Nat) (hp : SH[p]? = some (1, 12, [])) (ht : t < 4) (h0 : Mx p 0 < 6) (h2 : Mx p 2 < 2147483648) (h4 : Mx p 4 < 2147483648) (h5 : Mx p 5 < 2147483648) (h6 : Mx p (6 + Mx p 0) < 2147483648) (hs : ∀ k, Mx 46 k < 2147483648) (hnw : ∀ k, Mx 47 k < 1000) (hc0 : t = 0 → 0 < Mx p 0) (hc2 : t = 2 → 0 < Mx p 1) : KI l G base 2 yX7_go cX7_go 6 .int [.ref (base + 44), .ref (base + p), .int (nI (t))] SH Mx Lx (fun rr M1 L1 => rr = nI (if t = 2 then gn7 Mx (Mx p) else 0) ∧ M1 = sr Mx p (tk7 Mx (Mx p) t) ∧ L1 = Lx) := by
  refine k_meti (by decide) (Nat.le_of_ble_eq_true rfl) (fun K hK X Y => ?_)
  subst hK
  refine r_pl [(0, .ref (base + 44)), (1, .ref (base + p)), (2, .int (nI (t)))] ⟨rfl, rfl, rfl, trivial⟩ ?_
  rcases (show t = 0 ∨ t = 1 ∨ t = 2 ∨ t = 3 by omega) with rfl | rfl | rfl | rfl
  · skip
    refine r_iconst (q := 1) (v := nI 0) X kc_0 dX7_go_0 rfl ?_
    refine r_istore_n (q := 2) (i := 3) (j := 3) X rfl (Nat.le_of_ble_eq_true rfl) dX7_go_1 rfl ?_
    refine r_iload_n (q := 3) (i := 2) (j := 2) (x := nI (0)) X rfl rfl dX7_go_2 rfl ?_
    refine r_iconst (q := 4) (v := nI 2) X kc_2 dX7_go_3 rfl ?_
    refine r_icmp_ge (q := 7) (tgt := 22) X (by decide) dX7_go_4 rfl (fun c => absurd c (by decide)) (fun _ => ?_)
    refine r_aload_n (q := 8) (i := 1) (j := 1) (x := base + p) X rfl rfl dX7_go_7 rfl ?_
    refine r_iconst (q := 9) (v := nI 0) X kc_0 dX7_go_8 rfl ?_
    refine r_dup2 (q := 10) X rfl rfl dX7_go_9 rfl ?_
    refine r_iald (q := 11) (i := p) (j := 0) (v := Mx p 0) X hp (by omega) (Nat.le_of_ble_eq_true rfl) rfl dX7_go_10 rfl ?_
    refine r_iload_n (q := 12) (i := 2) (j := 2) (x := nI (0)) X rfl rfl dX7_go_11 rfl ?_
    refine r_if_ne (q := 15) (tgt := 19) X (by decide) dX7_go_12 rfl (fun c => absurd c (by decide)) (fun _ => ?_)
    refine r_iconst (q := 16) (v := (-1)) X kc_m1 dX7_go_15 rfl ?_
    refine r_goto (tgt := 20) X (by decide) dX7_go_16 ?_
    refine r_iaddR (q := 21) (x := nI (Mx p 0)) (y := (-1)) (v := nI (Mx p 0 - 1)) X (k_m1 (by omega)) dX7_go_20 rfl ?_
    refine r_iast (q := 22) (i := p) (j := 0) (v := Mx p 0 - 1) X hp (by omega) (Nat.le_of_ble_eq_true rfl) dX7_go_21 rfl ?_
    refine r_iload_n (q := 23) (i := 2) (j := 2) (x := nI (0)) X rfl rfl dX7_go_22 rfl ?_
    refine r_iconst (q := 24) (v := nI 2) X kc_2 dX7_go_23 rfl ?_
    refine r_icmp_ne (q := 27) (tgt := 95) X (by decide) dX7_go_24 rfl (fun _ => ?_) (fun c => absurd c (by decide))
    refine r_aload_n (q := 96) (i := 1) (j := 1) (x := base + p) X rfl rfl dX7_go_95 rfl ?_
    refine r_iconst (q := 97) (v := nI 2) X kc_2 dX7_go_96 rfl ?_
    refine r_dup2 (q := 98) X rfl rfl dX7_go_97 rfl ?_
    refine r_iald (q := 99) (i := p) (j := 2) (v := Mx p 2) X hp (by omega) (Nat.le_of_ble_eq_true rfl) (by simp [up2, k6 1 (by decide), k6 2 (by decide), k6 3 (by decide)]) dX7_go_98 rfl ?_
    refine r_iconst (q := 100) (v := nI 1) X kc_1 dX7_go_99 rfl ?_
    refine r_iaddR (q := 101) (x := nI (Mx p 2)) (y := nI 1) (v := nI ((Mx p 2) + 1)) X (nI_add _ _) dX7_go_100 rfl ?_
    refine r_iast (q := 102) (i := p) (j := 2) (v := (Mx p 2) + 1) X hp (by omega) (Nat.le_of_ble_eq_true rfl) dX7_go_101 rfl ?_
    refine r_iload_n (q := 103) (i := 3) (j := 3) (x := nI 0) X rfl rfl dX7_go_102 rfl ?_
    refine r_iret X Y ?_ dX7_go_103
    refine ⟨rfl, ?_, rfl⟩
    rw [tk7_0]
    funext a b
    by_cases ha : a = p <;> simp [up2, sr, up1, ha]
  · skip
    refine r_iconst (q := 1) (v := nI 0) X kc_0 dX7_go_0 rfl ?_
    refine r_istore_n (q := 2) (i := 3) (j := 3) X rfl (Nat.le_of_ble_eq_true rfl) dX7_go_1 rfl ?_
    refine r_iload_n (q := 3) (i := 2) (j := 2) (x := nI (1)) X rfl rfl dX7_go_2 rfl ?_
    refine r_iconst (q := 4) (v := nI 2) X kc_2 dX7_go_3 rfl ?_
    refine r_icmp_ge (q := 7) (tgt := 22) X (by decide) dX7_go_4 rfl (fun c => absurd c (by decide)) (fun _ => ?_)
    refine r_aload_n (q := 8) (i := 1) (j := 1) (x := base + p) X rfl rfl dX7_go_7 rfl ?_
    refine r_iconst (q := 9) (v := nI 0) X kc_0 dX7_go_8 rfl ?_
    refine r_dup2 (q := 10) X rfl rfl dX7_go_9 rfl ?_
    refine r_iald (q := 11) (i := p) (j := 0) (v := Mx p 0) X hp (by omega) (Nat.le_of_ble_eq_true rfl) rfl dX7_go_10 rfl ?_
    refine r_iload_n (q := 12) (i := 2) (j := 2) (x := nI (1)) X rfl rfl dX7_go_11 rfl ?_
    refine r_if_ne (q := 15) (tgt := 19) X (by decide) dX7_go_12 rfl (fun _ => ?_) (fun c => absurd c (by decide))
    refine r_iconst (q := 20) (v := nI 1) X kc_1 dX7_go_19 rfl ?_
    refine r_iaddR (q := 21) (x := nI (Mx p 0)) (y := nI 1) (v := nI ((Mx p 0) + 1)) X (nI_add _ _) dX7_go_20 rfl ?_
    refine r_iast (q := 22) (i := p) (j := 0) (v := (Mx p 0) + 1) X hp (by omega) (Nat.le_of_ble_eq_true rfl) dX7_go_21 rfl ?_
    refine r_iload_n (q := 23) (i := 2) (j := 2) (x := nI (1)) X rfl rfl dX7_go_22 rfl ?_
    refine r_iconst (q := 24) (v := nI 2) X kc_2 dX7_go_23 rfl ?_
    refine r_icmp_ne (q := 27) (tgt := 95) X (by decide) dX7_go_24 rfl (fun _ => ?_) (fun c => absurd c (by decide))
    refine r_aload_n (q := 96) (i := 1) (j := 1) (x := base + p) X rfl rfl dX7_go_95 rfl ?_
    refine r_iconst (q := 97) (v := nI 2) X kc_2 dX7_go_96 rfl ?_
    refine r_dup2 (q := 98) X rfl rfl dX7_go_97 rfl ?_
    refine r_iald (q := 99) (i := p) (j := 2) (v := Mx p 2) X hp (by omega) (Nat.le_of_ble_eq_true rfl) (by simp [up2, k6 1 (by decide), k6 2 (by decide), k6 3 (by decide)]) dX7_go_98 rfl ?_
    refine r_iconst (q := 100) (v := nI 1) X kc_1 dX7_go_99 rfl ?_
    refine r_iaddR (q := 101) (x := nI (Mx p 2)) (y := nI 1) (v := nI ((Mx p 2) + 1)) X (nI_add _ _) dX7_go_100 rfl ?_
    refine r_iast (q := 102) (i := p) (j := 2) (v := (Mx p 2) + 1) X hp (by omega) (Nat.le_of_ble_eq_true rfl) dX7_go_101 rfl ?_
    refine r_iload_n (q := 103) (i := 3) (j := 3) (x := nI 0) X rfl rfl dX7_go_102 rfl ?_
    refine r_iret X Y ?_ dX7_go_103
    refine ⟨rfl, ?_, rfl⟩
    rw [tk7_1]
    funext a b
    by_cases ha : a = p <;> simp [up2, sr, up1, ha]
  · skip
    refine r_iconst (q := 1) (v := nI 0) X kc_0 dX7_go_0 rfl ?_
    refine r_istore_n (q := 2) (i := 3) (j := 3) X rfl (Nat.le_of_ble_eq_true rfl) dX7_go_1 rfl ?_
    refine r_iload_n (q := 3) (i := 2) (j := 2) (x := nI (2)) X rfl rfl dX7_go_2 rfl ?_
    refine r_iconst (q := 4) (v := nI 2) X kc_2 dX7_go_3 rfl ?_
    refine r_icmp_ge (q := 7) (tgt := 22) X (by decide) dX7_go_4 rfl (fun _ => ?_) (fun c => absurd c (by decide))
    refine r_iload_n (q := 23) (i := 2) (j := 2) (x := nI (2)) X rfl rfl dX7_go_22 rfl ?_
    refine r_iconst (q := 24) (v := nI 2) X kc_2 dX7_go_23 rfl ?_
    refine r_icmp_ne (q := 27) (tgt := 95) X (by decide) dX7_go_24 rfl (fun c => absurd c (by decide)) (fun _ => ?_)
    refine r_aload_n (q := 28) (i := 1) (j := 1) (x := base + p) X rfl rfl dX7_go_27 rfl ?_
    refine r_iconst (q := 29) (v := nI 0) X kc_0 dX7_go_28 rfl ?_
    refine r_iald (q := 30) (i := p) (j := 0) (v := Mx p 0) X hp (by omega) (Nat.le_of_ble_eq_true rfl) rfl dX7_go_29 rfl ?_
    refine r_istore (q := 32) (i := 4) X (Nat.le_of_ble_eq_true rfl) dX7_go_30 rfl ?_
    refine r_iconst (q := 33) (v := nI 1) X kc_1 dX7_go_32 rfl ?_
    refine r_aload_n (q := 34) (i := 1) (j := 1) (x := base + p) X rfl rfl dX7_go_33 rfl ?_
    refine r_iconst (q := 35) (v := nI 2) X kc_2 dX7_go_34 rfl ?_
    refine r_iald (q := 36) (i := p) (j := 2) (v := Mx p 2) X hp (by omega) (Nat.le_of_ble_eq_true rfl) rfl dX7_go_35 rfl ?_
    refine r_iconst (q := 37) (v := nI 3) X kc_3 dX7_go_36 rfl ?_
    refine r_iremR (q := 38) (x := nI (Mx p 2)) (y := nI 3) (v := nI ((Mx p 2) % 3)) X (by decide) (pk_rem (by omega) (by omega) (by omega)) dX7_go_37 rfl ?_
    refine r_ishlR (q := 39) (x := nI 1) (y := nI ((Mx p 2) % 3)) (v := nI (bt7 (Mx p))) X (k_shl (by omega)) dX7_go_38 rfl ?_
    refine r_istore (q := 41) (i := 5) X (Nat.le_of_ble_eq_true rfl) dX7_go_39 rfl ?_
    refine r_aload_n (q := 42) (i := 1) (j := 1) (x := base + p) X rfl rfl dX7_go_41 rfl ?_
    refine r_bipush (q := 44) (v := nI 6) X kb_6 dX7_go_42 rfl ?_
    refine r_iload (q := 46) (i := 4) (x := nI (Mx p 0)) X rfl dX7_go_44 rfl ?_
    refine r_iaddR (q := 47) (x := nI 6) (y := nI (Mx p 0)) (v := nI (6 + (Mx p 0))) X (nI_add _ _) dX7_go_46 rfl ?_
    refine r_iald (q := 48) (i := p) (j := 6 + (Mx p 0)) (v := Mx p (6 + (Mx p 0))) X hp (by omega) (Nat.le_of_ble_eq_true rfl) rfl dX7_go_47 rfl ?_
    refine r_iload (q := 50) (i := 5) (x := nI (bt7 (Mx p))) X rfl dX7_go_48 rfl ?_
    refine r_iandR (q := 51) (x := nI (Mx p (6 + (Mx p 0)))) (y := nI (bt7 (Mx p))) (v := nI ((Mx p (6 + (Mx p 0))) &&& (bt7 (Mx p)))) X (fa_and _ _) dX7_go_50 rfl ?_
    have hb := k_and31 (b := bt7 (Mx p)) h6
    refine r_if_ne (q := 54) (tgt := 67) X (by decide) dX7_go_51 rfl (fun c51 => ?_) (fun c51 => ?_)
    · replace c51 : ¬ ((Mx p (6 + (Mx p 0))) &&& (bt7 (Mx p))) = 0 := fun h => c51 ((kI_eq0 (by omega)).mpr h)
      refine r_iconst (q := 68) (v := nI 0) X kc_0 dX7_go_67 rfl ?_
      refine r_istore_n (q := 69) (i := 3) (j := 3) X rfl (Nat.le_of_ble_eq_true rfl) dX7_go_68 rfl ?_
      refine r_aload_n (q := 70) (i := 1) (j := 1) (x := base + p) X rfl rfl dX7_go_69 rfl ?_
      refine r_bipush (q := 72) (v := nI 6) X kb_6 dX7_go_70 rfl ?_
      refine r_iload (q := 74) (i := 4) (x := nI (Mx p 0)) X rfl dX7_go_72 rfl ?_
      refine r_iaddR (q := 75) (x := nI 6) (y := nI (Mx p 0)) (v := nI (6 + (Mx p 0))) X (nI_add _ _) dX7_go_74 rfl ?_
      refine r_dup2 (q := 76) X rfl rfl dX7_go_75 rfl ?_
      refine r_iald (q := 77) (i := p) (j := 6 + (Mx p 0)) (v := Mx p (6 + (Mx p 0))) X hp (by omega) (Nat.le_of_ble_eq_true rfl) rfl dX7_go_76 rfl ?_
      refine r_iload (q := 79) (i := 5) (x := nI (bt7 (Mx p))) X rfl dX7_go_77 rfl ?_
      refine r_iorR (q := 80) (x := nI (Mx p (6 + (Mx p 0)))) (y := nI (bt7 (Mx p))) (v := nI ((Mx p (6 + (Mx p 0))) ||| (bt7 (Mx p)))) X (fa_or _ _) dX7_go_79 rfl ?_
      refine r_iast (q := 81) (i := p) (j := 6 + (Mx p 0)) (v := (Mx p (6 + (Mx p 0))) ||| (bt7 (Mx p))) X hp (by omega) (Nat.le_of_ble_eq_true rfl) dX7_go_80 rfl ?_
      refine r_aload_n (q := 82) (i := 1) (j := 1) (x := base + p) X rfl rfl dX7_go_81 rfl ?_
      refine r_iconst (q := 83) (v := nI 1) X kc_1 dX7_go_82 rfl ?_
      refine r_dup2 (q := 84) X rfl rfl dX7_go_83 rfl ?_
      refine r_iald (q := 85) (i := p) (j := 1) (v := Mx p 1) X hp (by omega) (Nat.le_of_ble_eq_true rfl) (by simp [up2, k6 1 (by decide), k6 2 (by decide), k6 3 (by decide)]) dX7_go_84 rfl ?_
      refine r_iconst (q := 86) (v := nI 1) X kc_1 dX7_go_85 rfl ?_
      refine r_isubR (q := 87) (x := nI (Mx p 1)) (y := nI 1) (v := nI ((Mx p 1) - 1)) X (pk_sub (by omega)) dX7_go_86 rfl ?_
      refine r_iast (q := 88) (i := p) (j := 1) (v := (Mx p 1) - 1) X hp (by omega) (Nat.le_of_ble_eq_true rfl) dX7_go_87 rfl ?_
      refine r_aload_n (q := 89) (i := 1) (j := 1) (x := base + p) X rfl rfl dX7_go_88 rfl ?_
      refine r_iconst (q := 90) (v := nI 3) X kc_3 dX7_go_89 rfl ?_
      refine r_dup2 (q := 91) X rfl rfl dX7_go_90 rfl ?_
      refine r_iald (q := 92) (i := p) (j := 3) (v := Mx p 3) X hp (by omega) (Nat.le_of_ble_eq_true rfl) (by simp [up2, k6 1 (by decide), k6 2 (by decide), k6 3 (by decide)]) dX7_go_91 rfl ?_
      refine r_iload_n (q := 93) (i := 3) (j := 3) (x := nI 0) X rfl rfl dX7_go_92 rfl ?_
      refine r_iaddR (q := 94) (x := nI (Mx p 3)) (y := nI 0) (v := nI ((Mx p 3) + 0)) X (nI_add _ _) dX7_go_93 rfl ?_
      refine r_iast (q := 95) (i := p) (j := 3) (v := (Mx p 3) + 0) X hp (by omega) (Nat.le_of_ble_eq_true rfl) dX7_go_94 rfl ?_
      refine r_aload_n (q := 96) (i := 1) (j := 1) (x := base + p) X rfl rfl dX7_go_95 rfl ?_
      refine r_iconst (q := 97) (v := nI 2) X kc_2 dX7_go_96 rfl ?_
      refine r_dup2 (q := 98) X rfl rfl dX7_go_97 rfl ?_
      refine r_iald (q := 99) (i := p) (j := 2) (v := Mx p 2) X hp (by omega) (Nat.le_of_ble_eq_true rfl) (by simp [up2, k6 1 (by decide), k6 2 (by decide), k6 3 (by decide)]) dX7_go_98 rfl ?_
      refine r_iconst (q := 100) (v := nI 1) X kc_1 dX7_go_99 rfl ?_
      refine r_iaddR (q := 101) (x := nI (Mx p 2)) (y := nI 1) (v := nI ((Mx p 2) + 1)) X (nI_add _ _) dX7_go_100 rfl ?_
      refine r_iast (q := 102) (i := p) (j := 2) (v := (Mx p 2) + 1) X hp (by omega) (Nat.le_of_ble_eq_true rfl) dX7_go_101 rfl ?_
      refine r_iload_n (q := 103) (i := 3) (j := 3) (x := nI 0) X rfl rfl dX7_go_102 rfl ?_
      refine r_iret X Y ?_ dX7_go_103
      refine ⟨?_, ?_, rfl⟩
      · rw [if_pos rfl]; unfold gn7; first | rw [if_pos (by assumption)] | rw [if_neg (by assumption)]
      have hg : gn7 Mx (Mx p) = 0 := by unfold gn7; first | rw [if_pos (by assumption)] | rw [if_neg (by assumption)]
      rw [tk7_2, hg]
      funext a b
      by_cases ha : a = p <;> simp [up2, sr, up1, ha]
    · replace c51 : ((Mx p (6 + (Mx p 0))) &&& (bt7 (Mx p))) = 0 := (kI_eq0 (by omega)).mp c51
      refine r_aload_n (q := 55) (i := 0) (j := 0) (x := base + 44) X rfl rfl dX7_go_54 rfl ?_
      refine r_aload_n (q := 56) (i := 1) (j := 1) (x := base + p) X rfl rfl dX7_go_55 rfl ?_
      refine r_iload (q := 58) (i := 4) (x := nI (Mx p 0)) X rfl dX7_go_56 rfl ?_
      refine r_aload_n (q := 59) (i := 1) (j := 1) (x := base + p) X rfl rfl dX7_go_58 rfl ?_
      refine r_iconst (q := 60) (v := nI 2) X kc_2 dX7_go_59 rfl ?_
      refine r_iald (q := 61) (i := p) (j := 2) (v := Mx p 2) X hp (by omega) (Nat.le_of_ble_eq_true rfl) rfl dX7_go_60 rfl ?_
      refine r_callVi (q := 64) X (c_sight7 K.2.1 G base Mx Lx p (Mx p 0) (Mx p 2) hp h0 h2 h4 h5 (hs _) hnw) kh_44 rfl ks_RX7_117 (by decide) (by decide) ⟨Nat.zero_le _, Nat.zero_le _⟩ rfl (Nat.le_of_ble_eq_true rfl) dX7_go_61 rfl (fun r M1 L1 hp => ?_)
      obtain ⟨e1, e2, e3⟩ := hp
      subst e1
      replace e2 := e2.symm
      subst e2
      replace e3 := e3.symm
      subst e3
      refine r_goto (tgt := 68) X (by decide) dX7_go_64 ?_
      refine r_istore_n (q := 69) (i := 3) (j := 3) X rfl (Nat.le_of_ble_eq_true rfl) dX7_go_68 rfl ?_
      refine r_aload_n (q := 70) (i := 1) (j := 1) (x := base + p) X rfl rfl dX7_go_69 rfl ?_
      refine r_bipush (q := 72) (v := nI 6) X kb_6 dX7_go_70 rfl ?_
      refine r_iload (q := 74) (i := 4) (x := nI (Mx p 0)) X rfl dX7_go_72 rfl ?_
      refine r_iaddR (q := 75) (x := nI 6) (y := nI (Mx p 0)) (v := nI (6 + (Mx p 0))) X (nI_add _ _) dX7_go_74 rfl ?_
      refine r_dup2 (q := 76) X rfl rfl dX7_go_75 rfl ?_
      refine r_iald (q := 77) (i := p) (j := 6 + (Mx p 0)) (v := Mx p (6 + (Mx p 0))) X hp (by omega) (Nat.le_of_ble_eq_true rfl) rfl dX7_go_76 rfl ?_
      refine r_iload (q := 79) (i := 5) (x := nI (bt7 (Mx p))) X rfl dX7_go_77 rfl ?_
      refine r_iorR (q := 80) (x := nI (Mx p (6 + (Mx p 0)))) (y := nI (bt7 (Mx p))) (v := nI ((Mx p (6 + (Mx p 0))) ||| (bt7 (Mx p)))) X (fa_or _ _) dX7_go_79 rfl ?_
      refine r_iast (q := 81) (i := p) (j := 6 + (Mx p 0)) (v := (Mx p (6 + (Mx p 0))) ||| (bt7 (Mx p))) X hp (by omega) (Nat.le_of_ble_eq_true rfl) dX7_go_80 rfl ?_
      refine r_aload_n (q := 82) (i := 1) (j := 1) (x := base + p) X rfl rfl dX7_go_81 rfl ?_
      refine r_iconst (q := 83) (v := nI 1) X kc_1 dX7_go_82 rfl ?_
      refine r_dup2 (q := 84) X rfl rfl dX7_go_83 rfl ?_
      refine r_iald (q := 85) (i := p) (j := 1) (v := Mx p 1) X hp (by omega) (Nat.le_of_ble_eq_true rfl) (by simp [up2, k6 1 (by decide), k6 2 (by decide), k6 3 (by decide)]) dX7_go_84 rfl ?_
      refine r_iconst (q := 86) (v := nI 1) X kc_1 dX7_go_85 rfl ?_
      refine r_isubR (q := 87) (x := nI (Mx p 1)) (y := nI 1) (v := nI ((Mx p 1) - 1)) X (pk_sub (by omega)) dX7_go_86 rfl ?_
      refine r_iast (q := 88) (i := p) (j := 1) (v := (Mx p 1) - 1) X hp (by omega) (Nat.le_of_ble_eq_true rfl) dX7_go_87 rfl ?_
      refine r_aload_n (q := 89) (i := 1) (j := 1) (x := base + p) X rfl rfl dX7_go_88 rfl ?_
      refine r_iconst (q := 90) (v := nI 3) X kc_3 dX7_go_89 rfl ?_
      refine r_dup2 (q := 91) X rfl rfl dX7_go_90 rfl ?_
      refine r_iald (q := 92) (i := p) (j := 3) (v := Mx p 3) X hp (by omega) (Nat.le_of_ble_eq_true rfl) (by simp [up2, k6 1 (by decide), k6 2 (by decide), k6 3 (by decide)]) dX7_go_91 rfl ?_
      refine r_iload_n (q := 93) (i := 3) (j := 3) (x := nI (sg7 Mx (Mx p) (Mx p 0) (Mx p 2))) X rfl rfl dX7_go_92 rfl ?_
      refine r_iaddR (q := 94) (x := nI (Mx p 3)) (y := nI (sg7 Mx (Mx p) (Mx p 0) (Mx p 2))) (v := nI ((Mx p 3) + (sg7 Mx (Mx p) (Mx p 0) (Mx p 2)))) X (nI_add _ _) dX7_go_93 rfl ?_
      refine r_iast (q := 95) (i := p) (j := 3) (v := (Mx p 3) + (sg7 Mx (Mx p) (Mx p 0) (Mx p 2))) X hp (by omega) (Nat.le_of_ble_eq_true rfl) dX7_go_94 rfl ?_
      refine r_aload_n (q := 96) (i := 1) (j := 1) (x := base + p) X rfl rfl dX7_go_95 rfl ?_
      refine r_iconst (q := 97) (v := nI 2) X kc_2 dX7_go_96 rfl ?_
      refine r_dup2 (q := 98) X rfl rfl dX7_go_97 rfl ?_
      refine r_iald (q := 99) (i := p) (j := 2) (v := Mx p 2) X hp (by omega) (Nat.le_of_ble_eq_true rfl) (by simp [up2, k6 1 (by decide), k6 2 (by decide), k6 3 (by decide)]) dX7_go_98 rfl ?_
      refine r_iconst (q := 100) (v := nI 1) X kc_1 dX7_go_99 rfl ?_
      refine r_iaddR (q := 101) (x := nI (Mx p 2)) (y := nI 1) (v := nI ((Mx p 2) + 1)) X (nI_add _ _) dX7_go_100 rfl ?_
      refine r_iast (q := 102) (i := p) (j := 2) (v := (Mx p 2) + 1) X hp (by omega) (Nat.le_of_ble_eq_true rfl) dX7_go_101 rfl ?_
      refine r_iload_n (q := 103) (i := 3) (j := 3) (x := nI (sg7 Mx (Mx p) (Mx p 0) (Mx p 2))) X rfl rfl dX7_go_102 rfl ?_
      refine r_iret X Y ?_ dX7_go_103
      refine ⟨?_, ?_, rfl⟩
      · rw [if_pos rfl]; unfold gn7; first | rw [if_pos (by assumption)] | rw [if_neg (by assumption)]
      have hg : gn7 Mx (Mx p) = sg7 Mx (Mx p) (Mx p 0) (Mx p 2) := by unfold gn7; first | rw [if_pos (by assumption)] | rw [if_neg (by assumption)]
      rw [tk7_2, hg]
      funext a b
      by_cases ha : a = p <;> simp [up2, sr, up1, ha]
  · skip
    refine r_iconst (q := 1) (v := nI 0) X kc_0 dX7_go_0 rfl ?_
    refine r_istore_n (q := 2) (i := 3) (j := 3) X rfl (Nat.le_of_ble_eq_true rfl) dX7_go_1 rfl ?_
    refine r_iload_n (q := 3) (i := 2) (j := 2) (x := nI (3)) X rfl rfl dX7_go_2 rfl ?_
    refine r_iconst (q := 4) (v := nI 2) X kc_2 dX7_go_3 rfl ?_
    refine r_icmp_ge (q := 7) (tgt := 22) X (by decide) dX7_go_4 rfl (fun _ => ?_) (fun c => absurd c (by decide))
    refine r_iload_n (q := 23) (i := 2) (j := 2) (x := nI (3)) X rfl rfl dX7_go_22 rfl ?_
    refine r_iconst (q := 24) (v := nI 2) X kc_2 dX7_go_23 rfl ?_
    refine r_icmp_ne (q := 27) (tgt := 95) X (by decide) dX7_go_24 rfl (fun _ => ?_) (fun c => absurd c (by decide))
    refine r_aload_n (q := 96) (i := 1) (j := 1) (x := base + p) X rfl rfl dX7_go_95 rfl ?_
    refine r_iconst (q := 97) (v := nI 2) X kc_2 dX7_go_96 rfl ?_
    refine r_dup2 (q := 98) X rfl rfl dX7_go_97 rfl ?_
    refine r_iald (q := 99) (i := p) (j := 2) (v := Mx p 2) X hp (by omega) (Nat.le_of_ble_eq_true rfl) rfl dX7_go_98 rfl ?_
    refine r_iconst (q := 100) (v := nI 1) X kc_1 dX7_go_99 rfl ?_
    refine r_iaddR (q := 101) (x := nI (Mx p 2)) (y := nI 1) (v := nI ((Mx p 2) + 1)) X (nI_add _ _) dX7_go_100 rfl ?_
    refine r_iast (q := 102) (i := p) (j := 2) (v := (Mx p 2) + 1) X hp (by omega) (Nat.le_of_ble_eq_true rfl) dX7_go_101 rfl ?_
    refine r_iload_n (q := 103) (i := 3) (j := 3) (x := nI 0) X rfl rfl dX7_go_102 rfl ?_
    refine r_iret X Y ?_ dX7_go_103
    refine ⟨rfl, ?_, rfl⟩
    rw [tk7_3]
    funext a b
    by_cases ha : a = p <;> simp [up2, sr, up1, ha]
end
section
/-! THE TEXT of the class -/
def isd (c most : Nat) : Nat := if 48 ≤ c ∧ c ≤ 48 + most then 1 else 0
def fitn (T : Nat → Nat) (p : Nat) : Nat := if p = 0 then (if T 0 = 78 then 1 else 0) else if p = 1 then isd (T 1) 9 else if (p - 2) % 5 = 0 then (if T p = 72 ∧ (p - 2) / 5 < 6 then 1 else 0) else isd (T p) (if (p - 2) % 5 = 1 then 3 else 9)
theorem isd_2 (c most : Nat) : isd c most < 2 := by unfold isd; split <;> omega
theorem k_nar {n : Nat} (h : n < 2) : narrow .boolean (.int (nI n)) = .int (nI n) := by
  rcases (show n = 0 ∨ n = 1 by omega) with rfl | rfl <;> rfl
theorem kd_lt {c : Nat} (h : c < 1000) : (nI c - nI 48 < 0) ↔ c < 48 := by
  rw [fa_lt, pk_sub_toInt (by omega) (by decide)]
  show (c : Int) - 48 < 0 ↔ _
  omega
theorem kd_gt {c m : Nat} (h : c < 1000) (hm : m < 1000) : (nI m < nI c - nI 48) ↔ m + 48 < c := by
  rw [fa_lt, pk_sub_toInt (by omega) (by decide), nI_toInt (by omega)]
  omega
set_option maxHeartbeats 8000000 in
theorem c_at (l : Launch) (G : ks_G) (base : Nat) (Mx : ks_M) (Lx : ks_L) (p : Nat) (hp : p < Mx 1 1) (hlen : Mx 1 1 ≤ 48) : KI l G base 0 yX5_at cX5_at 2 .int [.ref (base + 1), .int (nI (p))] SH Mx Lx (fun rr M1 L1 => rr = nI (Mx 2 p) ∧ M1 = Mx ∧ L1 = Lx) := by
  refine k_meti (by decide) (Nat.le_of_ble_eq_true rfl) (fun K hK X Y => ?_)
  subst hK
  refine r_pl [(0, .ref (base + 1)), (1, .int (nI (p)))] ⟨rfl, rfl, trivial⟩ ?_
  refine r_iload_n (q := 1) (i := 1) (j := 1) (x := nI (p)) X rfl rfl dX5_at_0 rfl ?_
  refine r_if_lt (q := 4) (tgt := 30) X (by decide) dX5_at_1 rfl (fun c1 => ?_) (fun c1 => ?_)
  · replace c1 : p < 0 := (kI_lt0 (by omega)).mp c1
    exfalso; omega
  · replace c1 : ¬ p < 0 := fun h => c1 ((kI_lt0 (by omega)).mpr h)
    refine r_iload_n (q := 5) (i := 1) (j := 1) (x := nI (p)) X rfl rfl dX5_at_4 rfl ?_
    refine r_aload_n (q := 6) (i := 0) (j := 0) (x := base + 1) X rfl rfl dX5_at_5 rfl ?_
    refine r_getf (q := 9) (i := 1) (v := .int (nI (Mx 1 1))) X fk_X5_15 kh_1 rfl rfl dX5_at_6 rfl ?_
    refine r_icmp_ge (q := 12) (tgt := 30) X (by decide) dX5_at_9 rfl (fun c9 => ?_) (fun c9 => ?_)
    · replace c9 : (Mx 1 1) ≤ p := (nI_leI (by omega) (by omega)).mp c9
      exfalso; omega
    · replace c9 : ¬ (Mx 1 1) ≤ p := fun h => c9 ((nI_leI (by omega) (by omega)).mpr h)
      refine r_iload_n (q := 13) (i := 1) (j := 1) (x := nI (p)) X rfl rfl dX5_at_12 rfl ?_
      refine r_aload_n (q := 14) (i := 0) (j := 0) (x := base + 1) X rfl rfl dX5_at_13 rfl ?_
      refine r_getf (q := 17) (i := 1) (v := .ref (base + 2)) X fk_X5_9 kh_1 rfl rfl dX5_at_14 rfl ?_
      refine r_alen (q := 18) (i := 2) (n := 48) X kh_2 dX5_at_17 rfl ?_
      refine r_icmp_ge (q := 21) (tgt := 30) X (by decide) dX5_at_18 rfl (fun c18 => ?_) (fun c18 => ?_)
      · replace c18 : 48 ≤ p := (nI_leI (by omega) (by omega)).mp c18
        exfalso; omega
      · replace c18 : ¬ 48 ≤ p := fun h => c18 ((nI_leI (by omega) (by omega)).mpr h)
        refine r_aload_n (q := 22) (i := 0) (j := 0) (x := base + 1) X rfl rfl dX5_at_21 rfl ?_
        refine r_getf (q := 25) (i := 1) (v := .ref (base + 2)) X fk_X5_9 kh_1 rfl rfl dX5_at_22 rfl ?_
        refine r_iload_n (q := 26) (i := 1) (j := 1) (x := nI (p)) X rfl rfl dX5_at_25 rfl ?_
        refine r_iald (q := 27) (i := 2) (j := p) (v := Mx 2 p) X kh_2 (by omega) (Nat.le_of_ble_eq_true rfl) rfl dX5_at_26 rfl ?_
        refine r_goto (tgt := 31) X (by decide) dX5_at_27 ?_
        refine r_iret X Y ?_ dX5_at_31
        exact ⟨rfl, rfl, rfl⟩
set_option maxHeartbeats 8000000 in
theorem c_digitAt (l : Launch) (G : ks_G) (base : Nat) (Mx : ks_M) (Lx : ks_L) (p : Nat) (hp : p < Mx 1 1) (hlen : Mx 1 1 ≤ 48) : KI l G base 1 yX5_digitAt cX5_digitAt 2 .int [.ref (base + 1), .int (nI (p))] SH Mx Lx (fun rr M1 L1 => rr = nI (Mx 2 p) - nI 48 ∧ M1 = Mx ∧ L1 = Lx) := by
  refine k_meti (by decide) (Nat.le_of_ble_eq_true rfl) (fun K hK X Y => ?_)
  subst hK
  refine r_pl [(0, .ref (base + 1)), (1, .int (nI (p)))] ⟨rfl, rfl, trivial⟩ ?_
  refine r_aload_n (q := 1) (i := 0) (j := 0) (x := base + 1) X rfl rfl dX5_digitAt_0 rfl ?_
  refine r_iload_n (q := 2) (i := 1) (j := 1) (x := nI (p)) X rfl rfl dX5_digitAt_1 rfl ?_
  refine r_callVi (q := 5) X (c_at K.2.1 G base Mx Lx p hp hlen) kh_1 rfl ks_RX5_19 (by decide) (by decide) ⟨Nat.zero_le _, Nat.zero_le _⟩ rfl (Nat.le_of_ble_eq_true rfl) dX5_digitAt_2 rfl (fun r M1 L1 hp => ?_)
  obtain ⟨e1, e2, e3⟩ := hp
  subst e1
  replace e2 := e2.symm
  subst e2
  replace e3 := e3.symm
  subst e3
  refine r_bipush (q := 7) (v := nI 48) X kb_48 dX5_digitAt_5 rfl ?_
  refine r_isubR (q := 8) (x := nI (Mx 2 p)) (y := nI 48) (v := nI (Mx 2 p) - nI 48) X rfl dX5_digitAt_7 rfl ?_
  refine r_iret X Y ?_ dX5_digitAt_8
  exact ⟨rfl, rfl, rfl⟩
set_option maxHeartbeats 8000000 in
theorem c_isDigit (l : Launch) (G : ks_G) (base : Nat) (Mx : ks_M) (Lx : ks_L) (p m : Nat) (hp : p < Mx 1 1) (hlen : Mx 1 1 ≤ 48) (hb : Mx 2 p < 1000) (hm : m < 1000) : KI l G base 2 yX5_isDigit cX5_isDigit 3 .boolean [.ref (base + 1), .int (nI (p)), .int (nI (m))] SH Mx Lx (fun rr M1 L1 => rr = nI (isd (Mx 2 p) m) ∧ M1 = Mx ∧ L1 = Lx) := by
  refine k_meti (by decide) (Nat.le_of_ble_eq_true rfl) (fun K hK X Y => ?_)
  subst hK
  refine r_pl [(0, .ref (base + 1)), (1, .int (nI (p))), (2, .int (nI (m)))] ⟨rfl, rfl, rfl, trivial⟩ ?_
  refine r_aload_n (q := 1) (i := 0) (j := 0) (x := base + 1) X rfl rfl dX5_isDigit_0 rfl ?_
  refine r_iload_n (q := 2) (i := 1) (j := 1) (x := nI (p)) X rfl rfl dX5_isDigit_1 rfl ?_
  refine r_callVi (q := 5) X (c_digitAt K.2.1 G base Mx Lx p hp hlen) kh_1 rfl ks_RX5_31 (by decide) (by decide) ⟨Nat.zero_le _, Nat.zero_le _⟩ rfl (Nat.le_of_ble_eq_true rfl) dX5_isDigit_2 rfl (fun r M1 L1 hp => ?_)
  obtain ⟨e1, e2, e3⟩ := hp
  subst e1
  replace e2 := e2.symm
  subst e2
  replace e3 := e3.symm
  subst e3
  refine r_if_lt (q := 8) (tgt := 21) X (by decide) dX5_isDigit_5 rfl (fun c5 => ?_) (fun c5 => ?_)
  · skip
    refine r_iconst (q := 22) (v := nI 0) X kc_0 dX5_isDigit_21 rfl ?_
    refine r_zret X Y (by decide) ?_ dX5_isDigit_22
    refine ⟨?_, rfl, rfl⟩
    first | rw [kd_lt hb] at c5 | skip
    first | rw [kd_gt hb hm] at c14 | skip
    unfold isd; first | rw [if_pos (by omega)] | rw [if_neg (by omega)]
  · skip
    refine r_aload_n (q := 9) (i := 0) (j := 0) (x := base + 1) X rfl rfl dX5_isDigit_8 rfl ?_
    refine r_iload_n (q := 10) (i := 1) (j := 1) (x := nI (p)) X rfl rfl dX5_isDigit_9 rfl ?_
    refine r_callVi (q := 13) X (c_digitAt K.2.1 G base Mx Lx p hp hlen) kh_1 rfl ks_RX5_31 (by decide) (by decide) ⟨Nat.zero_le _, Nat.zero_le _⟩ rfl (Nat.le_of_ble_eq_true rfl) dX5_isDigit_10 rfl (fun r M1 L1 hp => ?_)
    obtain ⟨e1, e2, e3⟩ := hp
    subst e1
    replace e2 := e2.symm
    subst e2
    replace e3 := e3.symm
    subst e3
    refine r_iload_n (q := 14) (i := 2) (j := 2) (x := nI (m)) X rfl rfl dX5_isDigit_13 rfl ?_
    refine r_icmp_gt (q := 17) (tgt := 21) X (by decide) dX5_isDigit_14 rfl (fun c14 => ?_) (fun c14 => ?_)
    · skip
      refine r_iconst (q := 22) (v := nI 0) X kc_0 dX5_isDigit_21 rfl ?_
      refine r_zret X Y (by decide) ?_ dX5_isDigit_22
      refine ⟨?_, rfl, rfl⟩
      first | rw [kd_lt hb] at c5 | skip
      first | rw [kd_gt hb hm] at c14 | skip
      unfold isd; first | rw [if_pos (by omega)] | rw [if_neg (by omega)]
    · skip
      refine r_iconst (q := 18) (v := nI 1) X kc_1 dX5_isDigit_17 rfl ?_
      refine r_goto (tgt := 22) X (by decide) dX5_isDigit_18 ?_
      refine r_zret X Y (by decide) ?_ dX5_isDigit_22
      refine ⟨?_, rfl, rfl⟩
      first | rw [kd_lt hb] at c5 | skip
      first | rw [kd_gt hb hm] at c14 | skip
      unfold isd; first | rw [if_pos (by omega)] | rw [if_neg (by omega)]
set_option maxHeartbeats 8000000 in
theorem c_housesTold (l : Launch) (G : ks_G) (base : Nat) (Mx : ks_M) (Lx : ks_L) (h2 : 2 ≤ Mx 1 1) (hlen : Mx 1 1 ≤ 48) : KI l G base 0 yX5_housesTold cX5_housesTold 1 .int [.ref (base + 1)] SH Mx Lx (fun rr M1 L1 => rr = nI ((Mx 1 1 - 2) / 5) ∧ M1 = Mx ∧ L1 = Lx) := by
  refine k_meti (by decide) (Nat.le_of_ble_eq_true rfl) (fun K hK X Y => ?_)
  subst hK
  refine r_pl [(0, .ref (base + 1))] ⟨rfl, trivial⟩ ?_
  refine r_aload_n (q := 1) (i := 0) (j := 0) (x := base + 1) X rfl rfl dX5_housesTold_0 rfl ?_
  refine r_getf (q := 4) (i := 1) (v := .int (nI (Mx 1 1))) X fk_X5_15 kh_1 rfl rfl dX5_housesTold_1 rfl ?_
  refine r_iconst (q := 5) (v := nI 2) X kc_2 dX5_housesTold_4 rfl ?_
  refine r_isubR (q := 6) (x := nI (Mx 1 1)) (y := nI 2) (v := nI ((Mx 1 1) - 2)) X (pk_sub h2) dX5_housesTold_5 rfl ?_
  refine r_iconst (q := 7) (v := nI 5) X kc_5 dX5_housesTold_6 rfl ?_
  refine r_idivR (q := 8) (x := nI ((Mx 1 1) - 2)) (y := nI 5) (v := nI (((Mx 1 1) - 2) / 5)) X (by decide) (pk_div (by omega) (by omega) (by omega)) dX5_housesTold_7 rfl ?_
  refine r_iret X Y ?_ dX5_housesTold_8
  exact ⟨rfl, rfl, rfl⟩
set_option maxHeartbeats 8000000 in
theorem c_fits (l : Launch) (G : ks_G) (base : Nat) (Mx : ks_M) (Lx : ks_L) (p : Nat) (hp : p < Mx 1 1) (hlen : Mx 1 1 ≤ 48) (hby : ∀ k, k < Mx 1 1 → Mx 2 k < 256) : KI l G base 3 yX5_fits cX5_fits 4 .boolean [.ref (base + 1), .int (nI (p))] SH Mx Lx (fun rr M1 L1 => rr = nI (fitn (Mx 2) p) ∧ M1 = Mx ∧ L1 = Lx) := by
  refine k_meti (by decide) (Nat.le_of_ble_eq_true rfl) (fun K hK X Y => ?_)
  subst hK
  refine r_pl [(0, .ref (base + 1)), (1, .int (nI (p)))] ⟨rfl, rfl, trivial⟩ ?_
  refine r_iload_n (q := 1) (i := 1) (j := 1) (x := nI (p)) X rfl rfl dX5_fits_0 rfl ?_
  refine r_if_ne (q := 4) (tgt := 20) X (by decide) dX5_fits_1 rfl (fun c1 => ?_) (fun c1 => ?_)
  · replace c1 : ¬ p = 0 := fun h => c1 ((kI_eq0 (by omega)).mpr h)
    refine r_iload_n (q := 21) (i := 1) (j := 1) (x := nI (p)) X rfl rfl dX5_fits_20 rfl ?_
    refine r_iconst (q := 22) (v := nI 2) X kc_2 dX5_fits_21 rfl ?_
    refine r_icmp_ge (q := 25) (tgt := 33) X (by decide) dX5_fits_22 rfl (fun c22 => ?_) (fun c22 => ?_)
    · replace c22 : 2 ≤ p := (nI_leI (by omega) (by omega)).mp c22
      refine r_iload_n (q := 34) (i := 1) (j := 1) (x := nI (p)) X rfl rfl dX5_fits_33 rfl ?_
      refine r_iconst (q := 35) (v := nI 2) X kc_2 dX5_fits_34 rfl ?_
      refine r_isubR (q := 36) (x := nI (p)) (y := nI 2) (v := nI (p - 2)) X (pk_sub (by omega)) dX5_fits_35 rfl ?_
      refine r_iconst (q := 37) (v := nI 5) X kc_5 dX5_fits_36 rfl ?_
      refine r_idivR (q := 38) (x := nI (p - 2)) (y := nI 5) (v := nI ((p - 2) / 5)) X (by decide) (pk_div (by omega) (by omega) (by omega)) dX5_fits_37 rfl ?_
      refine r_istore_n (q := 39) (i := 2) (j := 2) X rfl (Nat.le_of_ble_eq_true rfl) dX5_fits_38 rfl ?_
      refine r_iload_n (q := 40) (i := 1) (j := 1) (x := nI (p)) X rfl rfl dX5_fits_39 rfl ?_
      refine r_iconst (q := 41) (v := nI 2) X kc_2 dX5_fits_40 rfl ?_
      refine r_isubR (q := 42) (x := nI (p)) (y := nI 2) (v := nI (p - 2)) X (pk_sub (by omega)) dX5_fits_41 rfl ?_
      refine r_iconst (q := 43) (v := nI 5) X kc_5 dX5_fits_42 rfl ?_
      refine r_iremR (q := 44) (x := nI (p - 2)) (y := nI 5) (v := nI ((p - 2) % 5)) X (by decide) (pk_rem (by omega) (by omega) (by omega)) dX5_fits_43 rfl ?_
      refine r_istore_n (q := 45) (i := 3) (j := 3) X rfl (Nat.le_of_ble_eq_true rfl) dX5_fits_44 rfl ?_
      refine r_iload_n (q := 46) (i := 3) (j := 3) (x := nI ((p - 2) % 5)) X rfl rfl dX5_fits_45 rfl ?_
      refine r_if_ne (q := 49) (tgt := 71) X (by decide) dX5_fits_46 rfl (fun c46 => ?_) (fun c46 => ?_)
      · replace c46 : ¬ ((p - 2) % 5) = 0 := fun h => c46 ((kI_eq0 (by omega)).mpr h)
        refine r_aload_n (q := 72) (i := 0) (j := 0) (x := base + 1) X rfl rfl dX5_fits_71 rfl ?_
        refine r_iload_n (q := 73) (i := 1) (j := 1) (x := nI (p)) X rfl rfl dX5_fits_72 rfl ?_
        refine r_iload_n (q := 74) (i := 3) (j := 3) (x := nI ((p - 2) % 5)) X rfl rfl dX5_fits_73 rfl ?_
        refine r_iconst (q := 75) (v := nI 1) X kc_1 dX5_fits_74 rfl ?_
        refine r_icmp_ne (q := 78) (tgt := 82) X (by decide) dX5_fits_75 rfl (fun c75 => ?_) (fun c75 => ?_)
        · replace c75 : ¬ ((p - 2) % 5) = 1 := fun h => c75 ((kI_eq (by omega) (by omega)).mpr h)
          refine r_bipush (q := 84) (v := nI 9) X kb_9 dX5_fits_82 rfl ?_
          refine r_callVi (q := 87) X (c_isDigit K.2.1 G base Mx Lx p 9 hp hlen (by have := hby p hp; omega) (by decide)) kh_1 rfl ks_RX5_27 (by decide) (by decide) ⟨Nat.zero_le _, Nat.zero_le _⟩ rfl (Nat.le_of_ble_eq_true rfl) dX5_fits_84 rfl (fun r M1 L1 hp => ?_)
          obtain ⟨e1, e2, e3⟩ := hp
          subst e1
          replace e2 := e2.symm
          subst e2
          replace e3 := e3.symm
          subst e3
          refine r_zret X Y (k_nar (isd_2 _ _)) ?_ dX5_fits_87
          refine ⟨?_, rfl, rfl⟩
          unfold fitn
          (repeat' split) <;> first | rfl | (exfalso; omega) | (rw [show p = 1 by omega]) | (have hp0 : p = 0 := (by omega); subst hp0; exfalso; omega)
        · replace c75 : ((p - 2) % 5) = 1 := (kI_eq (by omega) (by omega)).mp c75
          refine r_iconst (q := 79) (v := nI 3) X kc_3 dX5_fits_78 rfl ?_
          refine r_goto (tgt := 84) X (by decide) dX5_fits_79 ?_
          refine r_callVi (q := 87) X (c_isDigit K.2.1 G base Mx Lx p 3 hp hlen (by have := hby p hp; omega) (by decide)) kh_1 rfl ks_RX5_27 (by decide) (by decide) ⟨Nat.zero_le _, Nat.zero_le _⟩ rfl (Nat.le_of_ble_eq_true rfl) dX5_fits_84 rfl (fun r M1 L1 hp => ?_)
          obtain ⟨e1, e2, e3⟩ := hp
          subst e1
          replace e2 := e2.symm
          subst e2
          replace e3 := e3.symm
          subst e3
          refine r_zret X Y (k_nar (isd_2 _ _)) ?_ dX5_fits_87
          refine ⟨?_, rfl, rfl⟩
          unfold fitn
          (repeat' split) <;> first | rfl | (exfalso; omega) | (rw [show p = 1 by omega]) | (have hp0 : p = 0 := (by omega); subst hp0; exfalso; omega)
      · replace c46 : ((p - 2) % 5) = 0 := (kI_eq0 (by omega)).mp c46
        refine r_aload_n (q := 50) (i := 0) (j := 0) (x := base + 1) X rfl rfl dX5_fits_49 rfl ?_
        refine r_iload_n (q := 51) (i := 1) (j := 1) (x := nI (p)) X rfl rfl dX5_fits_50 rfl ?_
        refine r_callVi (q := 54) X (c_at K.2.1 G base Mx Lx p hp hlen) kh_1 rfl ks_RX5_19 (by decide) (by decide) ⟨Nat.zero_le _, Nat.zero_le _⟩ rfl (Nat.le_of_ble_eq_true rfl) dX5_fits_51 rfl (fun r M1 L1 hp => ?_)
        obtain ⟨e1, e2, e3⟩ := hp
        subst e1
        replace e2 := e2.symm
        subst e2
        replace e3 := e3.symm
        subst e3
        refine r_bipush (q := 56) (v := nI 72) X kb_72 dX5_fits_54 rfl ?_
        have hb9 := hby p hp
        refine r_icmp_ne (q := 59) (tgt := 69) X (by decide) dX5_fits_56 rfl (fun c56 => ?_) (fun c56 => ?_)
        · replace c56 : ¬ (Mx 2 p) = 72 := fun h => c56 ((kI_eq (by omega) (by omega)).mpr h)
          refine r_iconst (q := 70) (v := nI 0) X kc_0 dX5_fits_69 rfl ?_
          refine r_zret X Y (by decide) ?_ dX5_fits_70
          refine ⟨?_, rfl, rfl⟩
          unfold fitn
          (repeat' split) <;> first | rfl | (exfalso; omega) | (rw [show p = 1 by omega]) | (have hp0 : p = 0 := (by omega); subst hp0; exfalso; omega)
        · replace c56 : (Mx 2 p) = 72 := (kI_eq (by omega) (by omega)).mp c56
          refine r_iload_n (q := 60) (i := 2) (j := 2) (x := nI ((p - 2) / 5)) X rfl rfl dX5_fits_59 rfl ?_
          refine r_bipush (q := 62) (v := nI 6) X kb_6 dX5_fits_60 rfl ?_
          refine r_icmp_ge (q := 65) (tgt := 69) X (by decide) dX5_fits_62 rfl (fun c62 => ?_) (fun c62 => ?_)
          · replace c62 : 6 ≤ ((p - 2) / 5) := (nI_leI (by omega) (by omega)).mp c62
            refine r_iconst (q := 70) (v := nI 0) X kc_0 dX5_fits_69 rfl ?_
            refine r_zret X Y (by decide) ?_ dX5_fits_70
            refine ⟨?_, rfl, rfl⟩
            unfold fitn
            (repeat' split) <;> first | rfl | (exfalso; omega) | (rw [show p = 1 by omega]) | (have hp0 : p = 0 := (by omega); subst hp0; exfalso; omega)
          · replace c62 : ¬ 6 ≤ ((p - 2) / 5) := fun h => c62 ((nI_leI (by omega) (by omega)).mpr h)
            refine r_iconst (q := 66) (v := nI 1) X kc_1 dX5_fits_65 rfl ?_
            refine r_goto (tgt := 70) X (by decide) dX5_fits_66 ?_
            refine r_zret X Y (by decide) ?_ dX5_fits_70
            refine ⟨?_, rfl, rfl⟩
            unfold fitn
            (repeat' split) <;> first | rfl | (exfalso; omega) | (rw [show p = 1 by omega]) | (have hp0 : p = 0 := (by omega); subst hp0; exfalso; omega)
    · replace c22 : ¬ 2 ≤ p := fun h => c22 ((nI_leI (by omega) (by omega)).mpr h)
      refine r_aload_n (q := 26) (i := 0) (j := 0) (x := base + 1) X rfl rfl dX5_fits_25 rfl ?_
      refine r_iload_n (q := 27) (i := 1) (j := 1) (x := nI (p)) X rfl rfl dX5_fits_26 rfl ?_
      refine r_bipush (q := 29) (v := nI 9) X kb_9 dX5_fits_27 rfl ?_
      refine r_callVi (q := 32) X (c_isDigit K.2.1 G base Mx Lx p 9 hp hlen (by have := hby p hp; omega) (by decide)) kh_1 rfl ks_RX5_27 (by decide) (by decide) ⟨Nat.zero_le _, Nat.zero_le _⟩ rfl (Nat.le_of_ble_eq_true rfl) dX5_fits_29 rfl (fun r M1 L1 hp => ?_)
      obtain ⟨e1, e2, e3⟩ := hp
      subst e1
      replace e2 := e2.symm
      subst e2
      replace e3 := e3.symm
      subst e3
      refine r_zret X Y (k_nar (isd_2 _ _)) ?_ dX5_fits_32
      refine ⟨?_, rfl, rfl⟩
      unfold fitn
      (repeat' split) <;> first | rfl | (exfalso; omega) | (rw [show p = 1 by omega]) | (have hp0 : p = 0 := (by omega); subst hp0; exfalso; omega)
  · replace c1 : p = 0 := (kI_eq0 (by omega)).mp c1
    refine r_aload_n (q := 5) (i := 0) (j := 0) (x := base + 1) X rfl rfl dX5_fits_4 rfl ?_
    refine r_iload_n (q := 6) (i := 1) (j := 1) (x := nI (p)) X rfl rfl dX5_fits_5 rfl ?_
    refine r_callVi (q := 9) X (c_at K.2.1 G base Mx Lx p hp hlen) kh_1 rfl ks_RX5_19 (by decide) (by decide) ⟨Nat.zero_le _, Nat.zero_le _⟩ rfl (Nat.le_of_ble_eq_true rfl) dX5_fits_6 rfl (fun r M1 L1 hp => ?_)
    obtain ⟨e1, e2, e3⟩ := hp
    subst e1
    replace e2 := e2.symm
    subst e2
    replace e3 := e3.symm
    subst e3
    refine r_bipush (q := 11) (v := nI 78) X kb_78 dX5_fits_9 rfl ?_
    have hb9 := hby p hp
    refine r_icmp_ne (q := 14) (tgt := 18) X (by decide) dX5_fits_11 rfl (fun c11 => ?_) (fun c11 => ?_)
    · replace c11 : ¬ (Mx 2 p) = 78 := fun h => c11 ((kI_eq (by omega) (by omega)).mpr h)
      refine r_iconst (q := 19) (v := nI 0) X kc_0 dX5_fits_18 rfl ?_
      refine r_zret X Y (by decide) ?_ dX5_fits_19
      refine ⟨?_, rfl, rfl⟩
      unfold fitn
      (repeat' split) <;> first | rfl | (exfalso; omega) | (rw [show p = 1 by omega]) | (have hp0 : p = 0 := (by omega); subst hp0; exfalso; omega)
    · replace c11 : (Mx 2 p) = 78 := (kI_eq (by omega) (by omega)).mp c11
      refine r_iconst (q := 15) (v := nI 1) X kc_1 dX5_fits_14 rfl ?_
      refine r_goto (tgt := 19) X (by decide) dX5_fits_15 ?_
      refine r_zret X Y (by decide) ?_ dX5_fits_19
      refine ⟨?_, rfl, rfl⟩
      unfold fitn
      (repeat' split) <;> first | rfl | (exfalso; omega) | (rw [show p = 1 by omega]) | (have hp0 : p = 0 := (by omega); subst hp0; exfalso; omega)
def okT (T : Nat → Nat) (len : Nat) : Prop := (∀ q, q < len → fitn T q = 1) ∧ 2 ≤ len ∧ (len - 2) % 5 = 0
def badT (T : Nat → Nat) (len v : Nat) : Prop := (∀ q, q < v → fitn T q = 1) ∧ ((v < len ∧ fitn T v ≠ 1) ∨ (v = len ∧ ¬ okT T len))
theorem fitn_2 (T : Nat → Nat) (p : Nat) : fitn T p < 2 := by
  unfold fitn
  (repeat' split) <;> first | omega | exact isd_2 _ _
set_option maxHeartbeats 8000000 in
theorem c_firstFault (l : Launch) (G : ks_G) (base : Nat) (Mx : ks_M) (Lx : ks_L) (hlen : Mx 1 1 ≤ 48) (hby : ∀ k, k < Mx 1 1 → Mx 2 k < 256) : KI l G base 4 yX5_firstFault cX5_firstFault 2 .int [.ref (base + 1)] SH Mx Lx (fun rr M1 L1 => (∃ v, rr = nI v ∧ v ≤ Mx 1 1 ∧ badT (Mx 2) (Mx 1 1) v ∧ M1 = Mx ∧ L1 = Lx) ∨ (rr = (-9) ∧ okT (Mx 2) (Mx 1 1) ∧ M1 = Mx ∧ L1 = Lx)) := by
  refine k_meti (by decide) (Nat.le_of_ble_eq_true rfl) (fun K hK X Y => ?_)
  subst hK
  have lp : ∀ (fuel : Nat) (p : Nat), Mx 1 1 - p < fuel → (p ≤ Mx 1 1) → (∀ q, q < p → fitn (Mx 2) q = 1) → RN K G base 2 0 0 SH Mx Lx 2 [(0, .ref (base + 1)), (1, .int (nI (p)))] [] := by
    intro fuel
    induction fuel with
    | zero => intro p hfu; exact absurd hfu (Nat.not_lt_zero _)
    | succ fuel ih =>
      intro p hfu hp hal
      refine r_iload_n (q := 3) (i := 1) (j := 1) (x := nI (p)) X rfl rfl dX5_firstFault_2 rfl ?_
      refine r_aload_n (q := 4) (i := 0) (j := 0) (x := base + 1) X rfl rfl dX5_firstFault_3 rfl ?_
      refine r_getf (q := 7) (i := 1) (v := .int (nI (Mx 1 1))) X fk_X5_15 kh_1 rfl rfl dX5_firstFault_4 rfl ?_
      refine r_icmp_ge (q := 10) (tgt := 26) X (by decide) dX5_firstFault_7 rfl (fun c7 => ?_) (fun c7 => ?_)
      · replace c7 : (Mx 1 1) ≤ p := (nI_leI (by omega) (by omega)).mp c7
        refine r_aload_n (q := 27) (i := 0) (j := 0) (x := base + 1) X rfl rfl dX5_firstFault_26 rfl ?_
        refine r_getf (q := 30) (i := 1) (v := .int (nI (Mx 1 1))) X fk_X5_15 kh_1 rfl rfl dX5_firstFault_27 rfl ?_
        refine r_iconst (q := 31) (v := nI 2) X kc_2 dX5_firstFault_30 rfl ?_
        refine r_icmp_lt (q := 34) (tgt := 49) X (by decide) dX5_firstFault_31 rfl (fun c31 => ?_) (fun c31 => ?_)
        · replace c31 : (Mx 1 1) < 2 := (nI_ltI (by omega) (by omega)).mp c31
          refine r_iconst (q := 50) (v := nI 0) X kc_0 dX5_firstFault_49 rfl ?_
          refine r_istore_n (q := 51) (i := 1) (j := 1) X rfl (Nat.le_of_ble_eq_true rfl) dX5_firstFault_50 rfl ?_
          refine r_iload_n (q := 52) (i := 1) (j := 1) (x := nI 0) X rfl rfl dX5_firstFault_51 rfl ?_
          refine r_if_eq (q := 55) (tgt := 60) X (by decide) dX5_firstFault_52 rfl (fun _ => ?_) (fun c => absurd c (by decide))
          refine r_aload_n (q := 61) (i := 0) (j := 0) (x := base + 1) X rfl rfl dX5_firstFault_60 rfl ?_
          refine r_getf (q := 64) (i := 1) (v := .int (nI (Mx 1 1))) X fk_X5_15 kh_1 rfl rfl dX5_firstFault_61 rfl ?_
          refine r_iret X Y ?_ dX5_firstFault_64
          refine Or.inl ⟨Mx 1 1, rfl, Nat.le_refl _, ⟨fun q hq => hal q (by omega), Or.inr ⟨rfl, fun h => ?_⟩⟩, rfl, rfl⟩
          have h1 := h.2.1
          have h2 := h.2.2
          omega
        · replace c31 : ¬ (Mx 1 1) < 2 := fun h => c31 ((nI_ltI (by omega) (by omega)).mpr h)
          refine r_aload_n (q := 35) (i := 0) (j := 0) (x := base + 1) X rfl rfl dX5_firstFault_34 rfl ?_
          refine r_getf (q := 38) (i := 1) (v := .int (nI (Mx 1 1))) X fk_X5_15 kh_1 rfl rfl dX5_firstFault_35 rfl ?_
          refine r_iconst (q := 39) (v := nI 2) X kc_2 dX5_firstFault_38 rfl ?_
          refine r_isubR (q := 40) (x := nI (Mx 1 1)) (y := nI 2) (v := nI ((Mx 1 1) - 2)) X (pk_sub (by omega)) dX5_firstFault_39 rfl ?_
          refine r_iconst (q := 41) (v := nI 5) X kc_5 dX5_firstFault_40 rfl ?_
          refine r_iremR (q := 42) (x := nI ((Mx 1 1) - 2)) (y := nI 5) (v := nI (((Mx 1 1) - 2) % 5)) X (by decide) (pk_rem (by omega) (by omega) (by omega)) dX5_firstFault_41 rfl ?_
          refine r_if_ne (q := 45) (tgt := 49) X (by decide) dX5_firstFault_42 rfl (fun c42 => ?_) (fun c42 => ?_)
          · replace c42 : ¬ (((Mx 1 1) - 2) % 5) = 0 := fun h => c42 ((kI_eq0 (by omega)).mpr h)
            refine r_iconst (q := 50) (v := nI 0) X kc_0 dX5_firstFault_49 rfl ?_
            refine r_istore_n (q := 51) (i := 1) (j := 1) X rfl (Nat.le_of_ble_eq_true rfl) dX5_firstFault_50 rfl ?_
            refine r_iload_n (q := 52) (i := 1) (j := 1) (x := nI 0) X rfl rfl dX5_firstFault_51 rfl ?_
            refine r_if_eq (q := 55) (tgt := 60) X (by decide) dX5_firstFault_52 rfl (fun _ => ?_) (fun c => absurd c (by decide))
            refine r_aload_n (q := 61) (i := 0) (j := 0) (x := base + 1) X rfl rfl dX5_firstFault_60 rfl ?_
            refine r_getf (q := 64) (i := 1) (v := .int (nI (Mx 1 1))) X fk_X5_15 kh_1 rfl rfl dX5_firstFault_61 rfl ?_
            refine r_iret X Y ?_ dX5_firstFault_64
            refine Or.inl ⟨Mx 1 1, rfl, Nat.le_refl _, ⟨fun q hq => hal q (by omega), Or.inr ⟨rfl, fun h => ?_⟩⟩, rfl, rfl⟩
            have h1 := h.2.1
            have h2 := h.2.2
            omega
          · replace c42 : (((Mx 1 1) - 2) % 5) = 0 := (kI_eq0 (by omega)).mp c42
            refine r_iconst (q := 46) (v := nI 1) X kc_1 dX5_firstFault_45 rfl ?_
            refine r_goto (tgt := 50) X (by decide) dX5_firstFault_46 ?_
            refine r_istore_n (q := 51) (i := 1) (j := 1) X rfl (Nat.le_of_ble_eq_true rfl) dX5_firstFault_50 rfl ?_
            refine r_iload_n (q := 52) (i := 1) (j := 1) (x := nI 1) X rfl rfl dX5_firstFault_51 rfl ?_
            refine r_if_eq (q := 55) (tgt := 60) X (by decide) dX5_firstFault_52 rfl (fun c => absurd c (by decide)) (fun _ => ?_)
            refine r_bipush (q := 57) (v := (-9)) X kb_m9 dX5_firstFault_55 rfl ?_
            refine r_goto (tgt := 64) X (by decide) dX5_firstFault_57 ?_
            refine r_iret X Y ?_ dX5_firstFault_64
            exact Or.inr ⟨rfl, ⟨fun q hq => hal q (by omega), by omega, by omega⟩, rfl, rfl⟩
      · replace c7 : ¬ (Mx 1 1) ≤ p := fun h => c7 ((nI_leI (by omega) (by omega)).mpr h)
        refine r_aload_n (q := 11) (i := 0) (j := 0) (x := base + 1) X rfl rfl dX5_firstFault_10 rfl ?_
        refine r_iload_n (q := 12) (i := 1) (j := 1) (x := nI (p)) X rfl rfl dX5_firstFault_11 rfl ?_
        refine r_callVi (q := 15) X (c_fits K.2.1 G base Mx Lx p (by omega) hlen hby) kh_1 rfl ks_RX5_23 (by decide) (by decide) ⟨Nat.zero_le _, Nat.zero_le _⟩ rfl (Nat.le_of_ble_eq_true rfl) dX5_firstFault_12 rfl (fun r M1 L1 hp => ?_)
        obtain ⟨e1, e2, e3⟩ := hp
        subst e1
        replace e2 := e2.symm
        subst e2
        replace e3 := e3.symm
        subst e3
        have hf2 := fitn_2 (Mx 2) p
        refine r_if_ne (q := 18) (tgt := 20) X (by decide) dX5_firstFault_15 rfl (fun c15 => ?_) (fun c15 => ?_)
        · replace c15 : ¬ (fitn (Mx 2) p) = 0 := fun h => c15 ((kI_eq0 (by omega)).mpr h)
          refine r_iinc (q := 23) (i := 1) (x := nI (p)) (v := nI (p + 1)) X rfl (Nat.le_of_ble_eq_true rfl) (kinc 1 rfl) dX5_firstFault_20 rfl ?_
          refine r_goto (tgt := 2) X (by decide) dX5_firstFault_23 ?_
          refine r_pl [(0, .ref (base + 1)), (1, .int (nI (p + 1)))] ⟨rfl, rfl, trivial⟩ ?_
          exact ih (p + 1) (by omega) (by omega) (fun q hq => (Nat.lt_or_ge q p).elim (hal q) (fun h => by rw [show q = p by omega]; omega))
        · replace c15 : (fitn (Mx 2) p) = 0 := (kI_eq0 (by omega)).mp c15
          refine r_iload_n (q := 19) (i := 1) (j := 1) (x := nI (p)) X rfl rfl dX5_firstFault_18 rfl ?_
          refine r_iret X Y ?_ dX5_firstFault_19
          exact Or.inl ⟨p, rfl, by omega, ⟨hal, Or.inl ⟨by omega, by omega⟩⟩, rfl, rfl⟩
  refine r_pl [(0, .ref (base + 1))] ⟨rfl, trivial⟩ ?_
  refine r_iconst (q := 1) (v := nI 0) X kc_0 dX5_firstFault_0 rfl ?_
  refine r_istore_n (q := 2) (i := 1) (j := 1) X rfl (Nat.le_of_ble_eq_true rfl) dX5_firstFault_1 rfl ?_
  refine r_pl [(0, .ref (base + 1)), (1, .int (nI (0)))] ⟨rfl, rfl, trivial⟩ ?_
  exact lp 100 0 (by omega) (by omega) (fun q hq => absurd hq (Nat.not_lt_zero _))
set_option maxHeartbeats 8000000 in
theorem c_add (l : Launch) (G : ks_G) (base : Nat) (Mx : ks_M) (Lx : ks_L) (b : Nat) (hlen : Mx 1 1 < 48) : KV l G base 0 0 0 yX5_add cX5_add 2 [.ref (base + 1), .int (nI (b))] SH SH Mx Lx (fun M1 L1 => M1 = up2 (up2 Mx 2 (Mx 1 1) b) 1 1 (Mx 1 1 + 1) ∧ L1 = Lx) := by
  refine k_metv (by decide) (Nat.le_of_ble_eq_true rfl) (fun K hK hRm X Y => ?_)
  subst hK
  refine r_pl [(0, .ref (base + 1)), (1, .int (nI (b)))] ⟨rfl, rfl, trivial⟩ ?_
  refine r_aload_n (q := 1) (i := 0) (j := 0) (x := base + 1) X rfl rfl dX5_add_0 rfl ?_
  refine r_getf (q := 4) (i := 1) (v := .int (nI (Mx 1 1))) X fk_X5_15 kh_1 rfl rfl dX5_add_1 rfl ?_
  refine r_if_lt (q := 7) (tgt := 39) X (by decide) dX5_add_4 rfl (fun c4 => ?_) (fun c4 => ?_)
  · replace c4 : (Mx 1 1) < 0 := (kI_lt0 (by omega)).mp c4
    exfalso; omega
  · replace c4 : ¬ (Mx 1 1) < 0 := fun h => c4 ((kI_lt0 (by omega)).mpr h)
    refine r_aload_n (q := 8) (i := 0) (j := 0) (x := base + 1) X rfl rfl dX5_add_7 rfl ?_
    refine r_getf (q := 11) (i := 1) (v := .int (nI (Mx 1 1))) X fk_X5_15 kh_1 rfl rfl dX5_add_8 rfl ?_
    refine r_aload_n (q := 12) (i := 0) (j := 0) (x := base + 1) X rfl rfl dX5_add_11 rfl ?_
    refine r_getf (q := 15) (i := 1) (v := .ref (base + 2)) X fk_X5_9 kh_1 rfl rfl dX5_add_12 rfl ?_
    refine r_alen (q := 16) (i := 2) (n := 48) X kh_2 dX5_add_15 rfl ?_
    refine r_icmp_ge (q := 19) (tgt := 39) X (by decide) dX5_add_16 rfl (fun c16 => ?_) (fun c16 => ?_)
    · replace c16 : 48 ≤ (Mx 1 1) := (nI_leI (by omega) (by omega)).mp c16
      exfalso; omega
    · replace c16 : ¬ 48 ≤ (Mx 1 1) := fun h => c16 ((nI_leI (by omega) (by omega)).mpr h)
      refine r_aload_n (q := 20) (i := 0) (j := 0) (x := base + 1) X rfl rfl dX5_add_19 rfl ?_
      refine r_getf (q := 23) (i := 1) (v := .ref (base + 2)) X fk_X5_9 kh_1 rfl rfl dX5_add_20 rfl ?_
      refine r_aload_n (q := 24) (i := 0) (j := 0) (x := base + 1) X rfl rfl dX5_add_23 rfl ?_
      refine r_getf (q := 27) (i := 1) (v := .int (nI (Mx 1 1))) X fk_X5_15 kh_1 rfl rfl dX5_add_24 rfl ?_
      refine r_iload_n (q := 28) (i := 1) (j := 1) (x := nI (b)) X rfl rfl dX5_add_27 rfl ?_
      refine r_iast (q := 29) (i := 2) (j := Mx 1 1) (v := b) X kh_2 (by omega) (Nat.le_of_ble_eq_true rfl) dX5_add_28 rfl ?_
      refine r_aload_n (q := 30) (i := 0) (j := 0) (x := base + 1) X rfl rfl dX5_add_29 rfl ?_
      refine r_dup (q := 31) X rfl dX5_add_30 rfl ?_
      refine r_getf (q := 34) (i := 1) (v := .int (nI (Mx 1 1))) X fk_X5_15 kh_1 rfl (by simp [ks_v, up2]) dX5_add_31 rfl ?_
      refine r_iconst (q := 35) (v := nI 1) X kc_1 dX5_add_34 rfl ?_
      refine r_iaddR (q := 36) (x := nI (Mx 1 1)) (y := nI 1) (v := nI ((Mx 1 1) + 1)) X (nI_add _ _) dX5_add_35 rfl ?_
      refine r_puti (q := 39) (i := 1) (n := (Mx 1 1) + 1) X fk_X5_15 kp_X5_1 kh_1 rfl dX5_add_36 rfl ?_
      refine r_vret X Y ?_ dX5_add_39
      exact ⟨rfl, rfl⟩
set_option maxHeartbeats 8000000 in
theorem c6_write (l : Launch) (G : ks_G) (base : Nat) (Mx : ks_M) (Lx : ks_L) (x : Int32) (hlen : Mx 1 1 ≤ 48) : KI l G base 1 yX6_write cX6_write 2 .int [.ref (base + 0), .int (x)] SH Mx Lx (fun rr M1 L1 => (rr = (-2) ∧ (∀ b, b < 256 → x ≠ nI b) ∧ M1 = Mx ∧ L1 = Lx) ∨ (∃ b, rr = (-4) ∧ b < 256 ∧ x = nI b ∧ Mx 1 1 = 48 ∧ M1 = Mx ∧ L1 = Lx) ∨ (∃ b, rr = nI (Mx 1 1 + 1) ∧ b < 256 ∧ x = nI b ∧ Mx 1 1 < 48 ∧ M1 = up2 (up2 Mx 2 (Mx 1 1) b) 1 1 (Mx 1 1 + 1) ∧ L1 = Lx)) := by
  refine k_meti (by decide) (Nat.le_of_ble_eq_true rfl) (fun K hK X Y => ?_)
  subst hK
  refine r_pl [(0, .ref (base + 0)), (1, .int (x))] ⟨rfl, rfl, trivial⟩ ?_
  refine r_iload_n (q := 1) (i := 1) (j := 1) (x := x) X rfl rfl dX6_write_0 rfl ?_
  refine r_if_lt (q := 4) (tgt := 11) X (by decide) dX6_write_1 rfl (fun c1 => ?_) (fun c1 => ?_)
  · skip
    refine r_bipush (q := 13) (v := (-2)) X kb_m2 dX6_write_11 rfl ?_
    refine r_iret X Y ?_ dX6_write_13
    refine Or.inl ⟨rfl, fun b hb h => ?_, rfl, rfl⟩
    rw [h] at c1; exact absurd c1 (nI_pos (by omega))
  · skip
    obtain ⟨b, hb, rfl⟩ := nI_of c1
    refine r_iload_n (q := 5) (i := 1) (j := 1) (x := nI (b)) X rfl rfl dX6_write_4 rfl ?_
    refine r_sipush (q := 8) (v := nI 255) X ks_255 dX6_write_5 rfl ?_
    refine r_icmp_le (q := 11) (tgt := 14) X (by decide) dX6_write_8 rfl (fun c8 => ?_) (fun c8 => ?_)
    · replace c8 : b ≤ 255 := (nI_leI (by omega) (by omega)).mp c8
      refine r_aload_n (q := 15) (i := 0) (j := 0) (x := base + 0) X rfl rfl dX6_write_14 rfl ?_
      refine r_getf (q := 18) (i := 0) (v := .ref (base + 1)) X fk_X6_10 kh_0 rfl rfl dX6_write_15 rfl ?_
      refine r_getf (q := 21) (i := 1) (v := .int (nI (Mx 1 1))) X fk_X6_74 kh_1 rfl rfl dX6_write_18 rfl ?_
      refine r_bipush (q := 23) (v := nI 48) X kb_48 dX6_write_21 rfl ?_
      refine r_icmp_lt (q := 26) (tgt := 29) X (by decide) dX6_write_23 rfl (fun c23 => ?_) (fun c23 => ?_)
      · replace c23 : (Mx 1 1) < 48 := (nI_ltI (by omega) (by omega)).mp c23
        refine r_aload_n (q := 30) (i := 0) (j := 0) (x := base + 0) X rfl rfl dX6_write_29 rfl ?_
        refine r_getf (q := 33) (i := 0) (v := .ref (base + 1)) X fk_X6_10 kh_0 rfl rfl dX6_write_30 rfl ?_
        refine r_iload_n (q := 34) (i := 1) (j := 1) (x := nI (b)) X rfl rfl dX6_write_33 rfl ?_
        refine r_callVv (q := 37) X (c_add K.2.1 G base Mx Lx b (by omega)) kh_1 rfl ks_RX6_77 (by decide) (by decide) ⟨Nat.zero_le _, Nat.zero_le _⟩ rfl (Nat.le_of_ble_eq_true rfl) dX6_write_34 rfl (fun M1 L1 hp => ?_)
        obtain ⟨e2, e3⟩ := hp
        replace e2 := e2.symm
        subst e2
        replace e3 := e3.symm
        subst e3
        refine r_aload_n (q := 38) (i := 0) (j := 0) (x := base + 0) X rfl rfl dX6_write_37 rfl ?_
        refine r_getf (q := 41) (i := 0) (v := .ref (base + 1)) X fk_X6_10 kh_0 rfl rfl dX6_write_38 rfl ?_
        refine r_getf (q := 44) (i := 1) (v := .int (nI (Mx 1 1 + 1))) X fk_X6_74 kh_1 rfl (kv (by simp [up2])) dX6_write_41 rfl ?_
        refine r_iret X Y ?_ dX6_write_44
        exact Or.inr (Or.inr ⟨b, rfl, by omega, rfl, by omega, rfl, rfl⟩)
      · replace c23 : ¬ (Mx 1 1) < 48 := fun h => c23 ((nI_ltI (by omega) (by omega)).mpr h)
        refine r_bipush (q := 28) (v := (-4)) X kb_m4 dX6_write_26 rfl ?_
        refine r_iret X Y ?_ dX6_write_28
        exact Or.inr (Or.inl ⟨b, rfl, by omega, rfl, by omega, rfl, rfl⟩)
    · replace c8 : ¬ b ≤ 255 := fun h => c8 ((nI_leI (by omega) (by omega)).mpr h)
      refine r_bipush (q := 13) (v := (-2)) X kb_m2 dX6_write_11 rfl ?_
      refine r_iret X Y ?_ dX6_write_13
      refine Or.inl ⟨rfl, fun b hb h => ?_, rfl, rfl⟩
      have h3 := (kI_eq (by omega) (by omega)).mp h; omega
set_option maxHeartbeats 8000000 in
theorem c6_wipe (l : Launch) (G : ks_G) (base : Nat) (Mx : ks_M) (Lx : ks_L)  : KI l G base 0 yX6_wipe cX6_wipe 2 .int [.ref (base + 0)] SH Mx Lx (fun rr M1 L1 => rr = nI (Mx 1 1) ∧ M1 = up2 Mx 1 1 0 ∧ L1 = Lx) := by
  refine k_meti (by decide) (Nat.le_of_ble_eq_true rfl) (fun K hK X Y => ?_)
  subst hK
  refine r_pl [(0, .ref (base + 0))] ⟨rfl, trivial⟩ ?_
  refine r_aload_n (q := 1) (i := 0) (j := 0) (x := base + 0) X rfl rfl dX6_wipe_0 rfl ?_
  refine r_getf (q := 4) (i := 0) (v := .ref (base + 1)) X fk_X6_10 kh_0 rfl rfl dX6_wipe_1 rfl ?_
  refine r_getf (q := 7) (i := 1) (v := .int (nI (Mx 1 1))) X fk_X6_74 kh_1 rfl rfl dX6_wipe_4 rfl ?_
  refine r_istore_n (q := 8) (i := 1) (j := 1) X rfl (Nat.le_of_ble_eq_true rfl) dX6_wipe_7 rfl ?_
  refine r_aload_n (q := 9) (i := 0) (j := 0) (x := base + 0) X rfl rfl dX6_wipe_8 rfl ?_
  refine r_getf (q := 12) (i := 0) (v := .ref (base + 1)) X fk_X6_10 kh_0 rfl rfl dX6_wipe_9 rfl ?_
  refine r_iconst (q := 13) (v := nI 0) X kc_0 dX6_wipe_12 rfl ?_
  refine r_puti (q := 16) (i := 1) (n := 0) X fk_X6_74 kp_X5_1 kh_1 rfl dX6_wipe_13 rfl ?_
  refine r_iload_n (q := 17) (i := 1) (j := 1) (x := nI (Mx 1 1)) X rfl rfl dX6_wipe_16 rfl ?_
  refine r_iret X Y ?_ dX6_wipe_17
  exact ⟨rfl, rfl, rfl⟩
set_option maxHeartbeats 8000000 in
theorem c6_fault (l : Launch) (G : ks_G) (base : Nat) (Mx : ks_M) (Lx : ks_L) (hlen : Mx 1 1 ≤ 48) (hby : ∀ k, k < Mx 1 1 → Mx 2 k < 256) : KI l G base 5 yX6_fault cX6_fault 1 .int [.ref (base + 0)] SH Mx Lx (fun rr M1 L1 => (∃ v, rr = nI v ∧ v ≤ Mx 1 1 ∧ badT (Mx 2) (Mx 1 1) v ∧ M1 = Mx ∧ L1 = Lx) ∨ (rr = (-9) ∧ okT (Mx 2) (Mx 1 1) ∧ M1 = Mx ∧ L1 = Lx)) := by
  refine k_meti (by decide) (Nat.le_of_ble_eq_true rfl) (fun K hK X Y => ?_)
  subst hK
  refine r_pl [(0, .ref (base + 0))] ⟨rfl, trivial⟩ ?_
  refine r_aload_n (q := 1) (i := 0) (j := 0) (x := base + 0) X rfl rfl dX6_fault_0 rfl ?_
  refine r_getf (q := 4) (i := 0) (v := .ref (base + 1)) X fk_X6_10 kh_0 rfl rfl dX6_fault_1 rfl ?_
  refine r_callVi (q := 7) X (c_firstFault K.2.1 G base Mx Lx hlen hby) kh_1 rfl ks_RX6_81 (by decide) (by decide) ⟨Nat.zero_le _, Nat.zero_le _⟩ rfl (Nat.le_of_ble_eq_true rfl) dX6_fault_4 rfl (fun r M1 L1 hp => ?_)
  refine r_iret X Y ?_ dX6_fault_7
  exact hp
end
section
/-! THE TEXT of the reference -/
theorem up2_id {M : ks_M} {i k n : Nat} (h : M i k = n) : up2 M i k n = M := by
  funext a b
  by_cases hc : a = i ∧ b = k
  · obtain ⟨rfl, rfl⟩ := hc
    simp [up2, h]
  · simp [up2, hc]
theorem k_ne9 {n : Nat} (h : n < 2147483648) : ¬ nI n = (-9) := by
  intro h1
  have h2 := congrArg Int32.toInt h1
  rw [nI_toInt h] at h2
  have h3 : ((-9 : Int32)).toInt = -9 := by decide
  omega
theorem kd_in {c m k : Nat} (hc : c < 1000) (hk : (k : Int) ≤ m) (hm : m < 1000) (h : nI c - nI 48 = nI k) : c = k + 48 := by
  have h1 := congrArg Int32.toInt h
  rw [pk_sub_toInt (by omega) (by decide), nI_toInt (by omega)] at h1
  omega
set_option maxHeartbeats 8000000 in
theorem c7_write (l : Launch) (G : ks_G) (base : Nat) (Mx : ks_M) (Lx : ks_L) (x : Int32) (hth : Mx 44 0 = 0) (hlen : Mx 44 2 ≤ 48) : KI l G base 1 yX7_write cX7_write 2 .int [.ref (base + 44), .int (x)] SH Mx Lx (fun rr M1 L1 => (rr = (-2) ∧ (∀ b, b < 256 → x ≠ nI b) ∧ M1 = Mx ∧ L1 = Lx) ∨ (∃ b, rr = (-4) ∧ b < 256 ∧ x = nI b ∧ Mx 44 2 = 48 ∧ M1 = Mx ∧ L1 = Lx) ∨ (∃ b, rr = nI (Mx 44 2 + 1) ∧ b < 256 ∧ x = nI b ∧ Mx 44 2 < 48 ∧ M1 = up2 (up2 Mx 45 (Mx 44 2) b) 44 2 (Mx 44 2 + 1) ∧ L1 = Lx)) := by
  refine k_meti (by decide) (Nat.le_of_ble_eq_true rfl) (fun K hK X Y => ?_)
  subst hK
  refine r_pl [(0, .ref (base + 44)), (1, .int (x))] ⟨rfl, rfl, trivial⟩ ?_
  refine r_aload_n (q := 1) (i := 0) (j := 0) (x := base + 44) X rfl rfl dX7_write_0 rfl ?_
  refine r_iconst (q := 2) (v := nI 0) X kc_0 dX7_write_1 rfl ?_
  refine r_puti (q := 5) (i := 44) (n := 0) X fk_X7_59 kp_X7_0 kh_44 rfl dX7_write_2 rfl ?_
  refine r_mem Mx (up2_id hth) ?_
  refine r_iload_n (q := 6) (i := 1) (j := 1) (x := x) X rfl rfl dX7_write_5 rfl ?_
  refine r_i2l (q := 7) (v := x.toInt64) X rfl dX7_write_6 rfl ?_
  refine r_lconst (q := 8) (v := 0) X rfl dX7_write_7 rfl ?_
  refine r_ldc2 (q := 11) (v := 255) X kl_RX7_70 dX7_write_8 rfl ?_
  refine r_callSi (q := 14) X (c_in K.2.1 G base Mx Lx x.toInt64 0 255) ks_RX7_66 (by decide) (by decide) ⟨Nat.zero_le _, Nat.zero_le _⟩ rfl (Nat.le_of_ble_eq_true rfl) dX7_write_11 rfl (fun r M1 L1 hp => ?_)
  have hk := kIn (x := x) (y := 0) (z := 255) (a := 0) (b := 255) rfl rfl (by omega) (by omega)
  rcases hp with ⟨e1, hin, hp2⟩ | ⟨e1, hin, hp2⟩
  · subst e1
    obtain ⟨e2, e3⟩ := hp2
    replace e2 := e2.symm
    subst e2
    replace e3 := e3.symm
    subst e3
    rw [hk] at hin
    obtain ⟨b, -, hb, rfl⟩ := hin
    refine r_if_ne (q := 17) (tgt := 20) X (by decide) dX7_write_14 rfl (fun _ => ?_) (fun c => absurd c (by decide))
    refine r_aload_n (q := 21) (i := 0) (j := 0) (x := base + 44) X rfl rfl dX7_write_20 rfl ?_
    refine r_getf (q := 24) (i := 44) (v := .int (nI (Mx 44 2))) X fk_X7_72 kh_44 rfl rfl dX7_write_21 rfl ?_
    refine r_bipush (q := 26) (v := nI 48) X kb_48 dX7_write_24 rfl ?_
    refine r_icmp_ne (q := 29) (tgt := 32) X (by decide) dX7_write_26 rfl (fun c26 => ?_) (fun c26 => ?_)
    · replace c26 : ¬ (Mx 44 2) = 48 := fun h => c26 ((kI_eq (by omega) (by omega)).mpr h)
      refine r_aload_n (q := 33) (i := 0) (j := 0) (x := base + 44) X rfl rfl dX7_write_32 rfl ?_
      refine r_getf (q := 36) (i := 44) (v := .ref (base + 45)) X fk_X7_7 kh_44 rfl rfl dX7_write_33 rfl ?_
      refine r_aload_n (q := 37) (i := 0) (j := 0) (x := base + 44) X rfl rfl dX7_write_36 rfl ?_
      refine r_getf (q := 40) (i := 44) (v := .int (nI (Mx 44 2))) X fk_X7_72 kh_44 rfl rfl dX7_write_37 rfl ?_
      refine r_iload_n (q := 41) (i := 1) (j := 1) (x := nI (b)) X rfl rfl dX7_write_40 rfl ?_
      refine r_iast (q := 42) (i := 45) (j := Mx 44 2) (v := b) X kh_45 (by omega) (Nat.le_of_ble_eq_true rfl) dX7_write_41 rfl ?_
      refine r_aload_n (q := 43) (i := 0) (j := 0) (x := base + 44) X rfl rfl dX7_write_42 rfl ?_
      refine r_dup (q := 44) X rfl dX7_write_43 rfl ?_
      refine r_getf (q := 47) (i := 44) (v := .int (nI (Mx 44 2))) X fk_X7_72 kh_44 rfl (by simp [ks_v, up2]) dX7_write_44 rfl ?_
      refine r_iconst (q := 48) (v := nI 1) X kc_1 dX7_write_47 rfl ?_
      refine r_iaddR (q := 49) (x := nI (Mx 44 2)) (y := nI 1) (v := nI ((Mx 44 2) + 1)) X (nI_add _ _) dX7_write_48 rfl ?_
      refine r_puti (q := 52) (i := 44) (n := (Mx 44 2) + 1) X fk_X7_72 kp_X7_2 kh_44 rfl dX7_write_49 rfl ?_
      refine r_aload_n (q := 53) (i := 0) (j := 0) (x := base + 44) X rfl rfl dX7_write_52 rfl ?_
      refine r_getf (q := 56) (i := 44) (v := .int (nI (Mx 44 2 + 1))) X fk_X7_72 kh_44 rfl (kv (by simp [up2])) dX7_write_53 rfl ?_
      refine r_iret X Y ?_ dX7_write_56
      exact Or.inr (Or.inr ⟨b, rfl, by omega, rfl, by omega, rfl, rfl⟩)
    · replace c26 : (Mx 44 2) = 48 := (kI_eq (by omega) (by omega)).mp c26
      refine r_bipush (q := 31) (v := (-4)) X kb_m4 dX7_write_29 rfl ?_
      refine r_iret X Y ?_ dX7_write_31
      exact Or.inr (Or.inl ⟨b, rfl, by omega, rfl, by omega, rfl, rfl⟩)
  · subst e1
    obtain ⟨e2, e3⟩ := hp2
    replace e2 := e2.symm
    subst e2
    replace e3 := e3.symm
    subst e3
    rw [hk] at hin
    refine r_if_ne (q := 17) (tgt := 20) X (by decide) dX7_write_14 rfl (fun c => absurd c (by decide)) (fun _ => ?_)
    refine r_bipush (q := 19) (v := (-2)) X kb_m2 dX7_write_17 rfl ?_
    refine r_iret X Y ?_ dX7_write_19
    exact Or.inl ⟨rfl, fun b hb h => hin ⟨b, by omega, by omega, h⟩, rfl, rfl⟩
set_option maxHeartbeats 8000000 in
theorem c7_wipe (l : Launch) (G : ks_G) (base : Nat) (Mx : ks_M) (Lx : ks_L) (hth : Mx 44 0 = 0) : KI l G base 0 yX7_wipe cX7_wipe 2 .int [.ref (base + 44)] SH Mx Lx (fun rr M1 L1 => rr = nI (Mx 44 2) ∧ M1 = up2 Mx 44 2 0 ∧ L1 = Lx) := by
  refine k_meti (by decide) (Nat.le_of_ble_eq_true rfl) (fun K hK X Y => ?_)
  subst hK
  refine r_pl [(0, .ref (base + 44))] ⟨rfl, trivial⟩ ?_
  refine r_aload_n (q := 1) (i := 0) (j := 0) (x := base + 44) X rfl rfl dX7_wipe_0 rfl ?_
  refine r_iconst (q := 2) (v := nI 0) X kc_0 dX7_wipe_1 rfl ?_
  refine r_puti (q := 5) (i := 44) (n := 0) X fk_X7_59 kp_X7_0 kh_44 rfl dX7_wipe_2 rfl ?_
  refine r_mem Mx (up2_id hth) ?_
  refine r_aload_n (q := 6) (i := 0) (j := 0) (x := base + 44) X rfl rfl dX7_wipe_5 rfl ?_
  refine r_getf (q := 9) (i := 44) (v := .int (nI (Mx 44 2))) X fk_X7_72 kh_44 rfl rfl dX7_wipe_6 rfl ?_
  refine r_istore_n (q := 10) (i := 1) (j := 1) X rfl (Nat.le_of_ble_eq_true rfl) dX7_wipe_9 rfl ?_
  refine r_aload_n (q := 11) (i := 0) (j := 0) (x := base + 44) X rfl rfl dX7_wipe_10 rfl ?_
  refine r_iconst (q := 12) (v := nI 0) X kc_0 dX7_wipe_11 rfl ?_
  refine r_puti (q := 15) (i := 44) (n := 0) X fk_X7_72 kp_X7_2 kh_44 rfl dX7_wipe_12 rfl ?_
  refine r_iload_n (q := 16) (i := 1) (j := 1) (x := nI (Mx 44 2)) X rfl rfl dX7_wipe_15 rfl ?_
  refine r_iret X Y ?_ dX7_wipe_16
  exact ⟨rfl, rfl, rfl⟩
set_option maxHeartbeats 8000000 in
theorem c7_figure (l : Launch) (G : ks_G) (base : Nat) (Mx : ks_M) (Lx : ks_L) (m : Nat) (hm : m < 1000) (hlen : Mx 44 2 ≤ 48) (hpl : Mx 44 3 ≤ Mx 44 2) (hby : ∀ k, k < Mx 44 2 → Mx 45 k < 256) : KI l G base 1 yX7_figure cX7_figure 2 .int [.ref (base + 44), .int (nI (m))] SH Mx Lx (fun rr M1 L1 => (rr = (-9) ∧ ¬ (Mx 44 3 < Mx 44 2 ∧ isd (Mx 45 (Mx 44 3)) m = 1) ∧ M1 = Mx ∧ L1 = Lx) ∨ (rr = nI (Mx 45 (Mx 44 3) - 48) ∧ Mx 44 3 < Mx 44 2 ∧ isd (Mx 45 (Mx 44 3)) m = 1 ∧ M1 = up2 Mx 44 3 (Mx 44 3 + 1) ∧ L1 = Lx)) := by
  refine k_meti (by decide) (Nat.le_of_ble_eq_true rfl) (fun K hK X Y => ?_)
  subst hK
  refine r_pl [(0, .ref (base + 44)), (1, .int (nI (m)))] ⟨rfl, rfl, trivial⟩ ?_
  refine r_aload_n (q := 1) (i := 0) (j := 0) (x := base + 44) X rfl rfl dX7_figure_0 rfl ?_
  refine r_getf (q := 4) (i := 44) (v := .int (nI (Mx 44 3))) X fk_X7_75 kh_44 rfl rfl dX7_figure_1 rfl ?_
  refine r_aload_n (q := 5) (i := 0) (j := 0) (x := base + 44) X rfl rfl dX7_figure_4 rfl ?_
  refine r_getf (q := 8) (i := 44) (v := .int (nI (Mx 44 2))) X fk_X7_72 kh_44 rfl rfl dX7_figure_5 rfl ?_
  refine r_icmp_eq (q := 11) (tgt := 33) X (by decide) dX7_figure_8 rfl (fun c8 => ?_) (fun c8 => ?_)
  · replace c8 : (Mx 44 3) = (Mx 44 2) := (kI_eq (by omega) (by omega)).mp c8
    refine r_bipush (q := 35) (v := (-9)) X kb_m9 dX7_figure_33 rfl ?_
    refine r_iret X Y ?_ dX7_figure_35
    refine Or.inl ⟨rfl, fun h => ?_, rfl, rfl⟩
    obtain ⟨h1, h2⟩ := h
    first
    | (exfalso; omega)
    | (unfold isd at h2; split at h2 <;> first | (exfalso; omega) | skip
       rename_i h3
       refine hin ⟨Mx 45 (Mx 44 3) - 48, by omega, by omega, ?_⟩
       exact pk_sub h3.1)
  · replace c8 : ¬ (Mx 44 3) = (Mx 44 2) := fun h => (c8 ((kI_eq (by omega) (by omega)).mpr h))
    have hc := hby (Mx 44 3) (by omega)
    refine r_aload_n (q := 12) (i := 0) (j := 0) (x := base + 44) X rfl rfl dX7_figure_11 rfl ?_
    refine r_getf (q := 15) (i := 44) (v := .ref (base + 45)) X fk_X7_7 kh_44 rfl rfl dX7_figure_12 rfl ?_
    refine r_aload_n (q := 16) (i := 0) (j := 0) (x := base + 44) X rfl rfl dX7_figure_15 rfl ?_
    refine r_getf (q := 19) (i := 44) (v := .int (nI (Mx 44 3))) X fk_X7_75 kh_44 rfl rfl dX7_figure_16 rfl ?_
    refine r_iald (q := 20) (i := 45) (j := Mx 44 3) (v := Mx 45 (Mx 44 3)) X kh_45 (by omega) (Nat.le_of_ble_eq_true rfl) rfl dX7_figure_19 rfl ?_
    refine r_bipush (q := 22) (v := nI 48) X kb_48 dX7_figure_20 rfl ?_
    refine r_isubR (q := 23) (x := nI (Mx 45 (Mx 44 3))) (y := nI 48) (v := nI (Mx 45 (Mx 44 3)) - nI 48) X rfl dX7_figure_22 rfl ?_
    refine r_i2l (q := 24) (v := (nI (Mx 45 (Mx 44 3)) - nI 48).toInt64) X rfl dX7_figure_23 rfl ?_
    refine r_lconst (q := 25) (v := 0) X rfl dX7_figure_24 rfl ?_
    refine r_iload_n (q := 26) (i := 1) (j := 1) (x := nI (m)) X rfl rfl dX7_figure_25 rfl ?_
    refine r_i2l (q := 27) (v := (nI m).toInt64) X rfl dX7_figure_26 rfl ?_
    refine r_callSi (q := 30) X (c_in K.2.1 G base Mx Lx (nI (Mx 45 (Mx 44 3)) - nI 48).toInt64 0 (nI m).toInt64) ks_RX7_66 (by decide) (by decide) ⟨Nat.zero_le _, Nat.zero_le _⟩ rfl (Nat.le_of_ble_eq_true rfl) dX7_figure_27 rfl (fun r M1 L1 hp => ?_)
    have hk := kIn (x := nI (Mx 45 (Mx 44 3)) - nI 48) (y := 0) (z := (nI m).toInt64) (a := 0) (b := m) rfl (by rw [Int32.toInt_toInt64, nI_toInt (by omega)]) (by omega) (by omega)
    rcases hp with ⟨e1, hin, hp2⟩ | ⟨e1, hin, hp2⟩
    · subst e1
      obtain ⟨e2, e3⟩ := hp2
      replace e2 := e2.symm
      subst e2
      replace e3 := e3.symm
      subst e3
      rw [hk] at hin
      obtain ⟨k, -, hkm, hke⟩ := hin
      have hcv := kd_in (by omega) hkm (by omega) hke
      refine r_if_ne (q := 33) (tgt := 36) X (by decide) dX7_figure_30 rfl (fun _ => ?_) (fun c => absurd c (by decide))
      refine r_aload_n (q := 37) (i := 0) (j := 0) (x := base + 44) X rfl rfl dX7_figure_36 rfl ?_
      refine r_dup (q := 38) X rfl dX7_figure_37 rfl ?_
      refine r_getf (q := 41) (i := 44) (v := .int (nI (Mx 44 3))) X fk_X7_75 kh_44 rfl rfl dX7_figure_38 rfl ?_
      refine r_iconst (q := 42) (v := nI 1) X kc_1 dX7_figure_41 rfl ?_
      refine r_iaddR (q := 43) (x := nI (Mx 44 3)) (y := nI 1) (v := nI ((Mx 44 3) + 1)) X (nI_add _ _) dX7_figure_42 rfl ?_
      refine r_puti (q := 46) (i := 44) (n := (Mx 44 3) + 1) X fk_X7_75 kp_X7_3 kh_44 rfl dX7_figure_43 rfl ?_
      refine r_aload_n (q := 47) (i := 0) (j := 0) (x := base + 44) X rfl rfl dX7_figure_46 rfl ?_
      refine r_getf (q := 50) (i := 44) (v := .ref (base + 45)) X fk_X7_7 kh_44 rfl rfl dX7_figure_47 rfl ?_
      refine r_aload_n (q := 51) (i := 0) (j := 0) (x := base + 44) X rfl rfl dX7_figure_50 rfl ?_
      refine r_getf (q := 54) (i := 44) (v := .int (nI ((Mx 44 3) + 1))) X fk_X7_75 kh_44 rfl (by simp [ks_v, up2]) dX7_figure_51 rfl ?_
      refine r_iconst (q := 55) (v := nI 1) X kc_1 dX7_figure_54 rfl ?_
      refine r_isubR (q := 56) (x := nI ((Mx 44 3) + 1)) (y := nI 1) (v := nI (((Mx 44 3) + 1) - 1)) X (pk_sub (by omega)) dX7_figure_55 rfl ?_
      refine r_iald (q := 57) (i := 45) (j := ((Mx 44 3) + 1) - 1) (v := Mx 45 (Mx 44 3)) X kh_45 (by omega) (Nat.le_of_ble_eq_true rfl) (by simp [up2]) dX7_figure_56 rfl ?_
      refine r_bipush (q := 59) (v := nI 48) X kb_48 dX7_figure_57 rfl ?_
      refine r_isubR (q := 60) (x := nI (Mx 45 (Mx 44 3))) (y := nI 48) (v := nI ((Mx 45 (Mx 44 3)) - 48)) X (pk_sub (by omega)) dX7_figure_59 rfl ?_
      refine r_iret X Y ?_ dX7_figure_60
      refine Or.inr ⟨rfl, by omega, ?_, rfl, rfl⟩
      unfold isd; rw [if_pos (by omega)]
    · subst e1
      obtain ⟨e2, e3⟩ := hp2
      replace e2 := e2.symm
      subst e2
      replace e3 := e3.symm
      subst e3
      rw [hk] at hin
      refine r_if_ne (q := 33) (tgt := 36) X (by decide) dX7_figure_30 rfl (fun c => absurd c (by decide)) (fun _ => ?_)
      refine r_bipush (q := 35) (v := (-9)) X kb_m9 dX7_figure_33 rfl ?_
      refine r_iret X Y ?_ dX7_figure_35
      refine Or.inl ⟨rfl, fun h => ?_, rfl, rfl⟩
      obtain ⟨h1, h2⟩ := h
      first
      | (exfalso; omega)
      | (unfold isd at h2; split at h2 <;> first | (exfalso; omega) | skip
         rename_i h3
         refine hin ⟨Mx 45 (Mx 44 3) - 48, by omega, by omega, ?_⟩
         exact pk_sub h3.1)
def rhm (M : ks_M) (k : Nat) : ks_M := fun a c => if a = 44 ∧ c = 3 then M 44 3 + k else if a = 48 ∧ 4 * M 44 8 ≤ c ∧ c < 4 * M 44 8 + k then M 45 (M 44 3 + (c - 4 * M 44 8)) - 48 else M a c
theorem rhm_0 (M : ks_M) : M = rhm M 0 := by
  funext a c
  unfold rhm
  split
  · next h => obtain ⟨rfl, rfl⟩ := h; rfl
  · rw [if_neg (by omega)]
theorem rhm_s (M : ks_M) (k : Nat) : up2 (up2 (rhm M k) 44 3 (M 44 3 + k + 1)) 48 (4 * M 44 8 + k) (M 45 (M 44 3 + k) - 48) = rhm M (k + 1) := by
  funext a c
  by_cases h1 : a = 48
  · subst h1
    by_cases h2 : c = 4 * M 44 8 + k
    · subst h2; simp [up2, rhm]
    · by_cases h3 : 4 * M 44 8 ≤ c ∧ c < 4 * M 44 8 + k
      · simp [up2, rhm, h2, h3, show c < 4 * M 44 8 + (k + 1) by omega]
      · simp [up2, rhm, h2, show ¬ (4 * M 44 8 ≤ c ∧ c < 4 * M 44 8 + (k + 1)) by omega, h3]
  · by_cases h2 : a = 44
    · subst h2
      by_cases h3 : c = 3
      · subst h3; simp [up2, rhm, Nat.add_assoc]
      · simp [up2, rhm, h3]
    · simp [up2, rhm, h1, h2]
def hsf (T : Nat → Nat) (len p k : Nat) : Prop := p + k < len ∧ isd (T (p + k)) (if k = 0 then 3 else 9) = 1
set_option maxHeartbeats 8000000 in
theorem c7_readHouse (l : Launch) (G : ks_G) (base : Nat) (Mx : ks_M) (Lx : ks_L) (hlen : Mx 44 2 ≤ 48) (hpl : Mx 44 3 ≤ Mx 44 2) (hrh : Mx 44 8 < 6) (hby : ∀ k, k < Mx 44 2 → Mx 45 k < 256) : KI l G base 2 yX7_readHouse cX7_readHouse 3 .boolean [.ref (base + 44)] SH Mx Lx (fun rr M1 L1 => (∃ k, k < 4 ∧ rr = nI 0 ∧ (∀ j, j < k → hsf (Mx 45) (Mx 44 2) (Mx 44 3) j) ∧ ¬ hsf (Mx 45) (Mx 44 2) (Mx 44 3) k ∧ M1 = rhm Mx k ∧ L1 = Lx) ∨ (rr = nI 1 ∧ (∀ j, j < 4 → hsf (Mx 45) (Mx 44 2) (Mx 44 3) j) ∧ M1 = up2 (rhm Mx 4) 44 8 (Mx 44 8 + 1) ∧ L1 = Lx)) := by
  refine k_meti (by decide) (Nat.le_of_ble_eq_true rfl) (fun K hK X Y => ?_)
  subst hK
  have lp : ∀ (fuel : Nat) (k : Nat), 4 - k < fuel → (k ≤ 4) → (Mx 44 3 + k ≤ Mx 44 2) → (∀ j, j < k → hsf (Mx 45) (Mx 44 2) (Mx 44 3) j) → RN K G base 3 0 0 SH ((rhm Mx k)) Lx 2 [(0, .ref (base + 44)), (1, .int (nI (k)))] [] := by
    intro fuel
    induction fuel with
    | zero => intro k hfu; exact absurd hfu (Nat.not_lt_zero _)
    | succ fuel ih =>
      intro k hfu hk hpk hal
      refine r_iload_n (q := 3) (i := 1) (j := 1) (x := nI (k)) X rfl rfl dX7_readHouse_2 rfl ?_
      refine r_iconst (q := 4) (v := nI 4) X kc_4 dX7_readHouse_3 rfl ?_
      refine r_icmp_ge (q := 7) (tgt := 50) X (by decide) dX7_readHouse_4 rfl (fun c4 => ?_) (fun c4 => ?_)
      · replace c4 : 4 ≤ k := (nI_leI (by omega) (by omega)).mp c4
        refine r_aload_n (q := 51) (i := 0) (j := 0) (x := base + 44) X rfl rfl dX7_readHouse_50 rfl ?_
        refine r_dup (q := 52) X rfl dX7_readHouse_51 rfl ?_
        refine r_getf (q := 55) (i := 44) (v := .int (nI (Mx 44 8))) X fk_X7_82 kh_44 rfl (kv (by simp [rhm])) dX7_readHouse_52 rfl ?_
        refine r_iconst (q := 56) (v := nI 1) X kc_1 dX7_readHouse_55 rfl ?_
        refine r_iaddR (q := 57) (x := nI (Mx 44 8)) (y := nI 1) (v := nI ((Mx 44 8) + 1)) X (nI_add _ _) dX7_readHouse_56 rfl ?_
        refine r_puti (q := 60) (i := 44) (n := (Mx 44 8) + 1) X fk_X7_82 kp_X7_8 kh_44 rfl dX7_readHouse_57 rfl ?_
        refine r_iconst (q := 61) (v := nI 1) X kc_1 dX7_readHouse_60 rfl ?_
        refine r_zret X Y (by decide) ?_ dX7_readHouse_61
        obtain rfl : k = 4 := by omega
        exact Or.inr ⟨rfl, hal, rfl, rfl⟩
      · replace c4 : ¬ 4 ≤ k := fun h => c4 ((nI_leI (by omega) (by omega)).mpr h)
        refine r_aload_n (q := 8) (i := 0) (j := 0) (x := base + 44) X rfl rfl dX7_readHouse_7 rfl ?_
        refine r_iload_n (q := 9) (i := 1) (j := 1) (x := nI (k)) X rfl rfl dX7_readHouse_8 rfl ?_
        refine r_if_ne (q := 12) (tgt := 16) X (by decide) dX7_readHouse_9 rfl (fun c9 => ?_) (fun c9 => ?_)
        · replace c9 : ¬ k = 0 := fun h => c9 ((kI_eq0 (by omega)).mpr h)
          refine r_bipush (q := 18) (v := nI 9) X kb_9 dX7_readHouse_16 rfl ?_
          refine r_callVi (q := 21) X (c7_figure K.2.1 G base (rhm Mx k) Lx 9 (by decide) (show Mx 44 2 ≤ 48 from hlen) (show Mx 44 3 + k ≤ Mx 44 2 from hpk) (show ∀ k, k < Mx 44 2 → Mx 45 k < 256 from hby)) kh_44 rfl ks_RX7_78 (by decide) (by decide) ⟨Nat.zero_le _, Nat.zero_le _⟩ rfl (Nat.le_of_ble_eq_true rfl) dX7_readHouse_18 rfl (fun r M1 L1 hp => ?_)
          replace hp : (r = (-9) ∧ ¬ (Mx 44 3 + k < Mx 44 2 ∧ isd (Mx 45 (Mx 44 3 + k)) 9 = 1) ∧ M1 = rhm Mx k ∧ L1 = Lx) ∨ (r = nI (Mx 45 (Mx 44 3 + k) - 48) ∧ Mx 44 3 + k < Mx 44 2 ∧ isd (Mx 45 (Mx 44 3 + k)) 9 = 1 ∧ M1 = up2 (rhm Mx k) 44 3 (Mx 44 3 + k + 1) ∧ L1 = Lx) := hp
          rcases hp with ⟨e1, hno, hp2⟩ | ⟨e1, hlt, hyes, hp2⟩
          · subst e1
            obtain ⟨e2, e3⟩ := hp2
            replace e2 := e2.symm
            subst e2
            replace e3 := e3.symm
            subst e3
            refine r_istore_n (q := 22) (i := 2) (j := 2) X rfl (Nat.le_of_ble_eq_true rfl) dX7_readHouse_21 rfl ?_
            refine r_iload_n (q := 23) (i := 2) (j := 2) (x := (-9)) X rfl rfl dX7_readHouse_22 rfl ?_
            refine r_bipush (q := 25) (v := (-9)) X kb_m9 dX7_readHouse_23 rfl ?_
            refine r_icmp_ne (q := 28) (tgt := 30) X (by decide) dX7_readHouse_25 rfl (fun c => absurd rfl c) (fun _ => ?_)
            refine r_iconst (q := 29) (v := nI 0) X kc_0 dX7_readHouse_28 rfl ?_
            refine r_zret X Y (by decide) ?_ dX7_readHouse_29
            exact Or.inl ⟨k, by omega, rfl, hal, fun h => hno ⟨h.1, by have h2 := h.2; first | rwa [if_pos (by omega)] at h2 | rwa [if_neg (by omega)] at h2⟩, rfl, rfl⟩
          · subst e1
            obtain ⟨e2, e3⟩ := hp2
            replace e2 := e2.symm
            subst e2
            replace e3 := e3.symm
            subst e3
            have hcv := hby (Mx 44 3 + k) hlt
            have hs4 : hsf (Mx 45) (Mx 44 2) (Mx 44 3) k := ⟨hlt, by first | rwa [if_pos (by omega)] | rwa [if_neg (by omega)]⟩
            refine r_istore_n (q := 22) (i := 2) (j := 2) X rfl (Nat.le_of_ble_eq_true rfl) dX7_readHouse_21 rfl ?_
            refine r_iload_n (q := 23) (i := 2) (j := 2) (x := nI (Mx 45 (Mx 44 3 + k) - 48)) X rfl rfl dX7_readHouse_22 rfl ?_
            refine r_bipush (q := 25) (v := (-9)) X kb_m9 dX7_readHouse_23 rfl ?_
            refine r_icmp_ne (q := 28) (tgt := 30) X (by decide) dX7_readHouse_25 rfl (fun c25 => ?_) (fun c25 => ?_)
            · skip
              refine r_aload_n (q := 31) (i := 0) (j := 0) (x := base + 44) X rfl rfl dX7_readHouse_30 rfl ?_
              refine r_getf (q := 34) (i := 44) (v := .ref (base + 48)) X fk_X7_19 kh_44 rfl rfl dX7_readHouse_31 rfl ?_
              refine r_iconst (q := 35) (v := nI 4) X kc_4 dX7_readHouse_34 rfl ?_
              refine r_aload_n (q := 36) (i := 0) (j := 0) (x := base + 44) X rfl rfl dX7_readHouse_35 rfl ?_
              refine r_getf (q := 39) (i := 44) (v := .int (nI (Mx 44 8))) X fk_X7_82 kh_44 rfl (kv (by simp [up2, rhm])) dX7_readHouse_36 rfl ?_
              refine r_imulR (q := 40) (x := nI 4) (y := nI (Mx 44 8)) (v := nI (4 * (Mx 44 8))) X (pk_mul _ _) dX7_readHouse_39 rfl ?_
              refine r_iload_n (q := 41) (i := 1) (j := 1) (x := nI (k)) X rfl rfl dX7_readHouse_40 rfl ?_
              refine r_iaddR (q := 42) (x := nI (4 * (Mx 44 8))) (y := nI (k)) (v := nI ((4 * (Mx 44 8)) + k)) X (nI_add _ _) dX7_readHouse_41 rfl ?_
              refine r_iload_n (q := 43) (i := 2) (j := 2) (x := nI (Mx 45 (Mx 44 3 + k) - 48)) X rfl rfl dX7_readHouse_42 rfl ?_
              refine r_iast (q := 44) (i := 48) (j := (4 * (Mx 44 8)) + k) (v := Mx 45 (Mx 44 3 + k) - 48) X kh_48 (by omega) (Nat.le_of_ble_eq_true rfl) dX7_readHouse_43 rfl ?_
              refine r_iinc (q := 47) (i := 1) (x := nI (k)) (v := nI (k + 1)) X rfl (Nat.le_of_ble_eq_true rfl) (kinc 1 rfl) dX7_readHouse_44 rfl ?_
              refine r_goto (tgt := 2) X (by decide) dX7_readHouse_47 ?_
              refine r_pl [(0, .ref (base + 44)), (1, .int (nI (k + 1)))] ⟨rfl, rfl, trivial⟩ ?_
              exact r_mem _ (rhm_s Mx k) (ih (k + 1) (by omega) (by omega) (by omega) (fun j hj => (Nat.lt_or_ge j k).elim (hal j) (fun h => by rw [show j = k by omega]; exact hs4)))
            · skip
              exact absurd c25 (k_ne9 (by omega))
        · replace c9 : k = 0 := (kI_eq0 (by omega)).mp c9
          refine r_iconst (q := 13) (v := nI 3) X kc_3 dX7_readHouse_12 rfl ?_
          refine r_goto (tgt := 18) X (by decide) dX7_readHouse_13 ?_
          refine r_callVi (q := 21) X (c7_figure K.2.1 G base (rhm Mx k) Lx 3 (by decide) (show Mx 44 2 ≤ 48 from hlen) (show Mx 44 3 + k ≤ Mx 44 2 from hpk) (show ∀ k, k < Mx 44 2 → Mx 45 k < 256 from hby)) kh_44 rfl ks_RX7_78 (by decide) (by decide) ⟨Nat.zero_le _, Nat.zero_le _⟩ rfl (Nat.le_of_ble_eq_true rfl) dX7_readHouse_18 rfl (fun r M1 L1 hp => ?_)
          replace hp : (r = (-9) ∧ ¬ (Mx 44 3 + k < Mx 44 2 ∧ isd (Mx 45 (Mx 44 3 + k)) 3 = 1) ∧ M1 = rhm Mx k ∧ L1 = Lx) ∨ (r = nI (Mx 45 (Mx 44 3 + k) - 48) ∧ Mx 44 3 + k < Mx 44 2 ∧ isd (Mx 45 (Mx 44 3 + k)) 3 = 1 ∧ M1 = up2 (rhm Mx k) 44 3 (Mx 44 3 + k + 1) ∧ L1 = Lx) := hp
          rcases hp with ⟨e1, hno, hp2⟩ | ⟨e1, hlt, hyes, hp2⟩
          · subst e1
            obtain ⟨e2, e3⟩ := hp2
            replace e2 := e2.symm
            subst e2
            replace e3 := e3.symm
            subst e3
            refine r_istore_n (q := 22) (i := 2) (j := 2) X rfl (Nat.le_of_ble_eq_true rfl) dX7_readHouse_21 rfl ?_
            refine r_iload_n (q := 23) (i := 2) (j := 2) (x := (-9)) X rfl rfl dX7_readHouse_22 rfl ?_
            refine r_bipush (q := 25) (v := (-9)) X kb_m9 dX7_readHouse_23 rfl ?_
            refine r_icmp_ne (q := 28) (tgt := 30) X (by decide) dX7_readHouse_25 rfl (fun c => absurd rfl c) (fun _ => ?_)
            refine r_iconst (q := 29) (v := nI 0) X kc_0 dX7_readHouse_28 rfl ?_
            refine r_zret X Y (by decide) ?_ dX7_readHouse_29
            exact Or.inl ⟨k, by omega, rfl, hal, fun h => hno ⟨h.1, by have h2 := h.2; first | rwa [if_pos (by omega)] at h2 | rwa [if_neg (by omega)] at h2⟩, rfl, rfl⟩
          · subst e1
            obtain ⟨e2, e3⟩ := hp2
            replace e2 := e2.symm
            subst e2
            replace e3 := e3.symm
            subst e3
            have hcv := hby (Mx 44 3 + k) hlt
            have hs4 : hsf (Mx 45) (Mx 44 2) (Mx 44 3) k := ⟨hlt, by first | rwa [if_pos (by omega)] | rwa [if_neg (by omega)]⟩
            refine r_istore_n (q := 22) (i := 2) (j := 2) X rfl (Nat.le_of_ble_eq_true rfl) dX7_readHouse_21 rfl ?_
            refine r_iload_n (q := 23) (i := 2) (j := 2) (x := nI (Mx 45 (Mx 44 3 + k) - 48)) X rfl rfl dX7_readHouse_22 rfl ?_
            refine r_bipush (q := 25) (v := (-9)) X kb_m9 dX7_readHouse_23 rfl ?_
            refine r_icmp_ne (q := 28) (tgt := 30) X (by decide) dX7_readHouse_25 rfl (fun c25 => ?_) (fun c25 => ?_)
            · skip
              refine r_aload_n (q := 31) (i := 0) (j := 0) (x := base + 44) X rfl rfl dX7_readHouse_30 rfl ?_
              refine r_getf (q := 34) (i := 44) (v := .ref (base + 48)) X fk_X7_19 kh_44 rfl rfl dX7_readHouse_31 rfl ?_
              refine r_iconst (q := 35) (v := nI 4) X kc_4 dX7_readHouse_34 rfl ?_
              refine r_aload_n (q := 36) (i := 0) (j := 0) (x := base + 44) X rfl rfl dX7_readHouse_35 rfl ?_
              refine r_getf (q := 39) (i := 44) (v := .int (nI (Mx 44 8))) X fk_X7_82 kh_44 rfl (kv (by simp [up2, rhm])) dX7_readHouse_36 rfl ?_
              refine r_imulR (q := 40) (x := nI 4) (y := nI (Mx 44 8)) (v := nI (4 * (Mx 44 8))) X (pk_mul _ _) dX7_readHouse_39 rfl ?_
              refine r_iload_n (q := 41) (i := 1) (j := 1) (x := nI (k)) X rfl rfl dX7_readHouse_40 rfl ?_
              refine r_iaddR (q := 42) (x := nI (4 * (Mx 44 8))) (y := nI (k)) (v := nI ((4 * (Mx 44 8)) + k)) X (nI_add _ _) dX7_readHouse_41 rfl ?_
              refine r_iload_n (q := 43) (i := 2) (j := 2) (x := nI (Mx 45 (Mx 44 3 + k) - 48)) X rfl rfl dX7_readHouse_42 rfl ?_
              refine r_iast (q := 44) (i := 48) (j := (4 * (Mx 44 8)) + k) (v := Mx 45 (Mx 44 3 + k) - 48) X kh_48 (by omega) (Nat.le_of_ble_eq_true rfl) dX7_readHouse_43 rfl ?_
              refine r_iinc (q := 47) (i := 1) (x := nI (k)) (v := nI (k + 1)) X rfl (Nat.le_of_ble_eq_true rfl) (kinc 1 rfl) dX7_readHouse_44 rfl ?_
              refine r_goto (tgt := 2) X (by decide) dX7_readHouse_47 ?_
              refine r_pl [(0, .ref (base + 44)), (1, .int (nI (k + 1)))] ⟨rfl, rfl, trivial⟩ ?_
              exact r_mem _ (rhm_s Mx k) (ih (k + 1) (by omega) (by omega) (by omega) (fun j hj => (Nat.lt_or_ge j k).elim (hal j) (fun h => by rw [show j = k by omega]; exact hs4)))
            · skip
              exact absurd c25 (k_ne9 (by omega))
  refine r_pl [(0, .ref (base + 44))] ⟨rfl, trivial⟩ ?_
  refine r_iconst (q := 1) (v := nI 0) X kc_0 dX7_readHouse_0 rfl ?_
  refine r_istore_n (q := 2) (i := 1) (j := 1) X rfl (Nat.le_of_ble_eq_true rfl) dX7_readHouse_1 rfl ?_
  refine r_pl [(0, .ref (base + 44)), (1, .int (nI (0)))] ⟨rfl, rfl, trivial⟩ ?_
  exact r_mem _ (rhm_0 Mx) (lp 5 0 (by omega) (by omega) (by omega) (fun j hj => absurd hj (Nat.not_lt_zero _)))
end
section
/-! THE STREET READ by the reference -/
theorem hsf_fit {T : Nat → Nat} {len h j : Nat} (hj : j < 4) : hsf T len (3 + 5 * h) j ↔ (3 + 5 * h + j < len ∧ fitn T (3 + 5 * h + j) = 1) := by
  have e : fitn T (3 + 5 * h + j) = isd (T (3 + 5 * h + j)) (if j = 0 then 3 else 9) := by
    unfold fitn
    rw [if_neg (by omega), if_neg (by omega), if_neg (by omega)]
    by_cases h0 : j = 0
    · rw [if_pos (by omega), if_pos h0]
    · rw [if_neg (by omega), if_neg h0]
  rw [e]; rfl
theorem fit_H {T : Nat → Nat} {h : Nat} : fitn T (2 + 5 * h) = if T (2 + 5 * h) = 72 ∧ h < 6 then 1 else 0 := by
  unfold fitn
  rw [if_neg (by omega), if_neg (by omega), if_pos (by omega), show (2 + 5 * h - 2) / 5 = h by omega]
theorem kM9 : ((-9 : Int32)) = nI 4294967287 := by decide +kernel
def rsF (Mx Mv : ks_M) : Prop := (∀ a c, a ≠ 44 → a ≠ 48 → Mv a c = Mx a c) ∧ (∀ c, c ≠ 3 → c ≠ 7 → c ≠ 8 → Mv 44 c = Mx 44 c)
def rsI (Mx Mv : ks_M) (h : Nat) : Prop := rsF Mx Mv ∧ Mv 44 3 = 2 + 5 * h ∧ Mv 44 8 = h ∧ Mv 44 7 = Mx 45 1 - 48 ∧ 2 + 5 * h ≤ Mx 44 2 ∧ h ≤ 6 ∧ (∀ q, q < 2 + 5 * h → fitn (Mx 45) q = 1) ∧ (∀ c, c < 4 * h → Mv 48 c = Mx 45 (3 + 5 * (c / 4) + c % 4) - 48)
theorem rs_next {Mx Mv : ks_M} {h : Nat} (I : rsI Mx Mv h) (hlt : h < 6) (h72 : Mx 45 (2 + 5 * h) = 72) (hs : ∀ j, j < 4 → hsf (Mx 45) (Mx 44 2) (3 + 5 * h) j) : rsI Mx (up2 (rhm (up2 Mv 44 3 (2 + 5 * h + 1)) 4) 44 8 (h + 1)) (h + 1) := by
  obtain ⟨⟨f1, f2⟩, h3, h8, h7, hle, h6, hal, h48⟩ := I
  refine ⟨⟨fun a c ha hb => ?_, fun c h3 h7 h8 => ?_⟩, ?_, ?_, ?_, ?_, by omega, fun q hq => ?_, fun c hc => ?_⟩
  · simp [up2, rhm, ha, hb, f1]
  · simp [up2, rhm, h3, h8, f2 c h3 h7 h8]
  · simp [up2, rhm]; omega
  · simp [up2]
  · simp [up2, rhm, h7]
  · have := (hsf_fit (by omega)).mp (hs 3 (by omega)); omega
  · rcases Nat.lt_or_ge q (2 + 5 * h) with hq2 | hq2
    · exact hal q hq2
    · rcases (show q = 2 + 5 * h ∨ 3 + 5 * h ≤ q by omega) with rfl | hq3
      · rw [fit_H, if_pos ⟨h72, hlt⟩]
      · have := (hsf_fit (by omega)).mp (hs (q - (3 + 5 * h)) (by omega))
        rw [show 3 + 5 * h + (q - (3 + 5 * h)) = q by omega] at this
        exact this.2
  · rcases Nat.lt_or_ge c (4 * h) with hc2 | hc2
    · simp only [up2, rhm]
      rw [if_neg (by omega), if_neg (by omega), if_neg (by simp [h8]; omega), if_neg (by omega)]
      exact h48 c hc2
    · simp only [up2, rhm]
      rw [if_neg (by omega), if_neg (by omega), if_pos (by simp [h8]; omega)]
      simp only [h8]
      simp [f1]
      rw [show 2 + 5 * h + 1 + (c - 4 * h) = 3 + 5 * (c / 4) + c % 4 by omega]
set_option maxHeartbeats 8000000 in
theorem c7_readStreet (l : Launch) (G : ks_G) (base : Nat) (Mx : ks_M) (Lx : ks_L) (hlen : Mx 44 2 ≤ 48) (hby : ∀ k, k < Mx 44 2 → Mx 45 k < 256) : KI l G base 3 yX7_readStreet cX7_readStreet 1 .int [.ref (base + 44)] SH Mx Lx (fun rr M1 L1 => (∃ v, rr = nI v ∧ v ≤ Mx 44 2 ∧ badT (Mx 45) (Mx 44 2) v ∧ rsF Mx M1 ∧ L1 = Lx) ∨ (rr = (-9) ∧ okT (Mx 45) (Mx 44 2) ∧ 2 + 5 * ((Mx 44 2 - 2) / 5) = Mx 44 2 ∧ rsI Mx M1 ((Mx 44 2 - 2) / 5) ∧ L1 = Lx)) := by
  refine k_meti (by decide) (Nat.le_of_ble_eq_true rfl) (fun K hK X Y => ?_)
  subst hK
  have lp : ∀ (fuel : Nat) (h : Nat) (Mv : ks_M), 10 - h < fuel → (rsI Mx Mv h) → RN K G base 1 0 0 SH Mv Lx 59 [(0, .ref (base + 44))] [] := by
    intro fuel
    induction fuel with
    | zero => intro h Mv hfu; exact absurd hfu (Nat.not_lt_zero _)
    | succ fuel ih =>
      intro h Mv hfu hI
      have hq1 := hI.2.1
      have hq2 := hI.2.2.1
      have hq3 := hI.2.2.2.2.1
      have hq4 := hI.2.2.2.2.2.1
      refine r_aload_n (q := 60) (i := 0) (j := 0) (x := base + 44) X rfl rfl dX7_readStreet_59 rfl ?_
      refine r_getf (q := 63) (i := 44) (v := .int (nI (2 + 5 * h))) X fk_X7_75 kh_44 rfl (kv hI.2.1) dX7_readStreet_60 rfl ?_
      refine r_aload_n (q := 64) (i := 0) (j := 0) (x := base + 44) X rfl rfl dX7_readStreet_63 rfl ?_
      refine r_getf (q := 67) (i := 44) (v := .int (nI (Mx 44 2))) X fk_X7_72 kh_44 rfl (kv (hI.1.2 2 (by decide) (by decide) (by decide))) dX7_readStreet_64 rfl ?_
      refine r_icmp_ge (q := 70) (tgt := 120) X (by decide) dX7_readStreet_67 rfl (fun c67 => ?_) (fun c67 => ?_)
      · replace c67 : (Mx 44 2) ≤ (2 + 5 * h) := (nI_leI (by omega) (by omega)).mp c67
        refine r_bipush (q := 122) (v := (-9)) X kb_m9 dX7_readStreet_120 rfl ?_
        refine r_iret X Y ?_ dX7_readStreet_122
        have hq := hI.2.2.2.2.1
        have hh : h = (Mx 44 2 - 2) / 5 := by omega
        exact Or.inr ⟨rfl, ⟨fun q hq2 => hI.2.2.2.2.2.2.1 q (by omega), by omega, by omega⟩, by omega, hh ▸ hI, rfl⟩
      · replace c67 : ¬ (Mx 44 2) ≤ (2 + 5 * h) := fun h => c67 ((nI_leI (by omega) (by omega)).mpr h)
        refine r_aload_n (q := 71) (i := 0) (j := 0) (x := base + 44) X rfl rfl dX7_readStreet_70 rfl ?_
        refine r_getf (q := 74) (i := 44) (v := .ref (base + 45)) X fk_X7_7 kh_44 rfl rfl dX7_readStreet_71 rfl ?_
        refine r_aload_n (q := 75) (i := 0) (j := 0) (x := base + 44) X rfl rfl dX7_readStreet_74 rfl ?_
        refine r_getf (q := 78) (i := 44) (v := .int (nI (2 + 5 * h))) X fk_X7_75 kh_44 rfl (kv hI.2.1) dX7_readStreet_75 rfl ?_
        refine r_iald (q := 79) (i := 45) (j := 2 + 5 * h) (v := Mx 45 (2 + 5 * h)) X kh_45 (by omega) (Nat.le_of_ble_eq_true rfl) (hI.1.1 45 _ (by decide) (by decide)) dX7_readStreet_78 rfl ?_
        refine r_bipush (q := 81) (v := nI 72) X kb_72 dX7_readStreet_79 rfl ?_
        have hb9 := hby (2 + 5 * h) (by omega)
        refine r_icmp_ne (q := 84) (tgt := 93) X (by decide) dX7_readStreet_81 rfl (fun c81 => ?_) (fun c81 => ?_)
        · replace c81 : ¬ (Mx 45 (2 + 5 * h)) = 72 := fun h => c81 ((kI_eq (by omega) (by omega)).mpr h)
          refine r_aload_n (q := 94) (i := 0) (j := 0) (x := base + 44) X rfl rfl dX7_readStreet_93 rfl ?_
          refine r_getf (q := 97) (i := 44) (v := .int (nI (2 + 5 * h))) X fk_X7_75 kh_44 rfl (kv hI.2.1) dX7_readStreet_94 rfl ?_
          refine r_iret X Y ?_ dX7_readStreet_97
          refine Or.inl ⟨2 + 5 * h, rfl, by omega, ⟨hI.2.2.2.2.2.2.1, Or.inl ⟨by omega, ?_⟩⟩, hI.1, rfl⟩
          rw [fit_H, if_neg (by omega)]; decide
        · replace c81 : (Mx 45 (2 + 5 * h)) = 72 := (kI_eq (by omega) (by omega)).mp c81
          refine r_aload_n (q := 85) (i := 0) (j := 0) (x := base + 44) X rfl rfl dX7_readStreet_84 rfl ?_
          refine r_getf (q := 88) (i := 44) (v := .int (nI (h))) X fk_X7_82 kh_44 rfl (kv hI.2.2.1) dX7_readStreet_85 rfl ?_
          refine r_bipush (q := 90) (v := nI 6) X kb_6 dX7_readStreet_88 rfl ?_
          refine r_icmp_ne (q := 93) (tgt := 98) X (by decide) dX7_readStreet_90 rfl (fun c90 => ?_) (fun c90 => ?_)
          · replace c90 : ¬ h = 6 := fun h => c90 ((kI_eq (by omega) (by omega)).mpr h)
            refine r_aload_n (q := 99) (i := 0) (j := 0) (x := base + 44) X rfl rfl dX7_readStreet_98 rfl ?_
            refine r_dup (q := 100) X rfl dX7_readStreet_99 rfl ?_
            refine r_getf (q := 103) (i := 44) (v := .int (nI (2 + 5 * h))) X fk_X7_75 kh_44 rfl (kv hI.2.1) dX7_readStreet_100 rfl ?_
            refine r_iconst (q := 104) (v := nI 1) X kc_1 dX7_readStreet_103 rfl ?_
            refine r_iaddR (q := 105) (x := nI (2 + 5 * h)) (y := nI 1) (v := nI ((2 + 5 * h) + 1)) X (nI_add _ _) dX7_readStreet_104 rfl ?_
            refine r_puti (q := 108) (i := 44) (n := (2 + 5 * h) + 1) X fk_X7_75 kp_X7_3 kh_44 rfl dX7_readStreet_105 rfl ?_
            refine r_aload_n (q := 109) (i := 0) (j := 0) (x := base + 44) X rfl rfl dX7_readStreet_108 rfl ?_
            refine r_callVi (q := 112) X (c7_readHouse K.2.1 G base (up2 Mv 44 3 (2 + 5 * h + 1)) Lx (by simp [up2]; rw [hI.1.2 2 (by decide) (by decide) (by decide)]; exact hlen) (by simp [up2]; rw [hI.1.2 2 (by decide) (by decide) (by decide)]; omega) (by simp [up2]; omega) (fun k hk => by simp [up2] at hk ⊢; rw [hI.1.2 2 (by decide) (by decide) (by decide)] at hk; rw [hI.1.1 45 k (by decide) (by decide)]; exact hby k hk)) kh_44 rfl ks_RX7_88 (by decide) (by decide) ⟨Nat.zero_le _, Nat.zero_le _⟩ rfl (Nat.le_of_ble_eq_true rfl) dX7_readStreet_109 rfl (fun r M1 L1 hp => ?_)
            have e45 : (up2 Mv 44 3 (2 + 5 * h + 1)) 45 = Mx 45 := by funext c; simp [up2]; exact hI.1.1 45 c (by decide) (by decide)
            have e2 : (up2 Mv 44 3 (2 + 5 * h + 1)) 44 2 = Mx 44 2 := by simp [up2]; exact hI.1.2 2 (by decide) (by decide) (by decide)
            have e3 : (up2 Mv 44 3 (2 + 5 * h + 1)) 44 3 = 3 + 5 * h := by simp [up2]; omega
            have e8 : (up2 Mv 44 3 (2 + 5 * h + 1)) 44 8 = h := by simp [up2]; exact hI.2.2.1
            rw [e45, e2, e3, e8] at hp
            rcases hp with ⟨k, hk4, e1, hal2, hnk, hp2⟩ | ⟨e1, hal2, hp2⟩
            · subst e1
              obtain ⟨e2, e3⟩ := hp2
              replace e2 := e2.symm
              subst e2
              replace e3 := e3.symm
              subst e3
              refine r_if_ne (q := 115) (tgt := 59) X (by decide) dX7_readStreet_112 rfl (fun c => absurd c (by decide)) (fun _ => ?_)
              refine r_aload_n (q := 116) (i := 0) (j := 0) (x := base + 44) X rfl rfl dX7_readStreet_115 rfl ?_
              refine r_getf (q := 119) (i := 44) (v := .int (nI (3 + 5 * h + k))) X fk_X7_75 kh_44 rfl (kv (by simp [up2, rhm]; omega)) dX7_readStreet_116 rfl ?_
              refine r_iret X Y ?_ dX7_readStreet_119
              refine Or.inl ⟨3 + 5 * h + k, rfl, ?_, ⟨fun q hq => ?_, ?_⟩, ⟨fun a c ha hb => by simp [up2, rhm, ha, hb]; exact hI.1.1 a c ha hb, fun c h3 h7 h8 => by simp [up2, rhm, h3, h8]; exact hI.1.2 c h3 h7 h8⟩, rfl⟩
              · rcases (show k = 0 ∨ 0 < k by omega) with h0 | h0
                · omega
                · have := ((hsf_fit (by omega)).mp (hal2 (k - 1) (by omega))).1; omega
              · rcases Nat.lt_or_ge q (2 + 5 * h) with hq2 | hq2
                · exact hI.2.2.2.2.2.2.1 q hq2
                · rcases (show q = 2 + 5 * h ∨ 3 + 5 * h ≤ q by omega) with rfl | hq3
                  · rw [fit_H, if_pos ⟨by omega, by omega⟩]
                  · have := (hsf_fit (by omega)).mp (hal2 (q - (3 + 5 * h)) (by omega))
                    rw [show 3 + 5 * h + (q - (3 + 5 * h)) = q by omega] at this
                    exact this.2
              · rw [hsf_fit hk4] at hnk
                rcases Nat.lt_or_ge (3 + 5 * h + k) (Mx 44 2) with h5 | h5
                · exact Or.inl ⟨h5, fun h6 => hnk ⟨h5, h6⟩⟩
                · refine Or.inr ⟨?_, fun h6 => ?_⟩
                  · rcases (show k = 0 ∨ 0 < k by omega) with h0 | h0
                    · omega
                    · have := ((hsf_fit (by omega)).mp (hal2 (k - 1) (by omega))).1; omega
                  · have h7 := h6.2.2
                    have h8 : Mx 44 2 = 3 + 5 * h + k := by
                      rcases (show k = 0 ∨ 0 < k by omega) with h0 | h0
                      · omega
                      · have := ((hsf_fit (by omega)).mp (hal2 (k - 1) (by omega))).1; omega
                    omega
            · subst e1
              obtain ⟨e2, e3⟩ := hp2
              replace e2 := e2.symm
              subst e2
              replace e3 := e3.symm
              subst e3
              refine r_if_ne (q := 115) (tgt := 59) X (by decide) dX7_readStreet_112 rfl (fun _ => ?_) (fun c => absurd c (by decide))
              refine r_pl [(0, .ref (base + 44))] ⟨rfl, trivial⟩ ?_
              exact ih (h + 1) _ (by omega) (rs_next hI (by omega) (by omega) hal2)
          · replace c90 : h = 6 := (kI_eq (by omega) (by omega)).mp c90
            refine r_aload_n (q := 94) (i := 0) (j := 0) (x := base + 44) X rfl rfl dX7_readStreet_93 rfl ?_
            refine r_getf (q := 97) (i := 44) (v := .int (nI (2 + 5 * h))) X fk_X7_75 kh_44 rfl (kv hI.2.1) dX7_readStreet_94 rfl ?_
            refine r_iret X Y ?_ dX7_readStreet_97
            refine Or.inl ⟨2 + 5 * h, rfl, by omega, ⟨hI.2.2.2.2.2.2.1, Or.inl ⟨by omega, ?_⟩⟩, hI.1, rfl⟩
            rw [fit_H, if_neg (by omega)]; decide
  refine r_pl [(0, .ref (base + 44))] ⟨rfl, trivial⟩ ?_
  refine r_aload_n (q := 1) (i := 0) (j := 0) (x := base + 44) X rfl rfl dX7_readStreet_0 rfl ?_
  refine r_iconst (q := 2) (v := nI 0) X kc_0 dX7_readStreet_1 rfl ?_
  refine r_puti (q := 5) (i := 44) (n := 0) X fk_X7_75 kp_X7_3 kh_44 rfl dX7_readStreet_2 rfl ?_
  refine r_aload_n (q := 6) (i := 0) (j := 0) (x := base + 44) X rfl rfl dX7_readStreet_5 rfl ?_
  refine r_iconst (q := 7) (v := nI 0) X kc_0 dX7_readStreet_6 rfl ?_
  refine r_puti (q := 10) (i := 44) (n := 0) X fk_X7_82 kp_X7_8 kh_44 rfl dX7_readStreet_7 rfl ?_
  refine r_aload_n (q := 11) (i := 0) (j := 0) (x := base + 44) X rfl rfl dX7_readStreet_10 rfl ?_
  refine r_getf (q := 14) (i := 44) (v := .int (nI (Mx 44 2))) X fk_X7_72 kh_44 rfl (kv (by simp [up2])) dX7_readStreet_11 rfl ?_
  refine r_if_eq (q := 17) (tgt := 28) X (by decide) dX7_readStreet_14 rfl (fun c14 => ?_) (fun c14 => ?_)
  · replace c14 : (Mx 44 2) = 0 := (kI_eq0 (by omega)).mp c14
    refine r_iconst (q := 29) (v := nI 0) X kc_0 dX7_readStreet_28 rfl ?_
    refine r_iret X Y ?_ dX7_readStreet_29
    refine Or.inl ⟨0, rfl, by omega, ⟨fun q hq => absurd hq (Nat.not_lt_zero _), ?_⟩, ⟨fun a c ha hb => by simp [up2, ha], fun c h3 h7 h8 => by simp [up2, h3, h7, h8]⟩, rfl⟩
    first
    | exact Or.inr ⟨by omega, fun h => by have := h.2.1; omega⟩
    | (refine Or.inl ⟨by omega, ?_⟩; unfold fitn; rw [if_pos rfl, if_neg (by assumption)]; decide)
  · replace c14 : ¬ (Mx 44 2) = 0 := fun h => (c14 ((kI_eq0 (by omega)).mpr h))
    refine r_aload_n (q := 18) (i := 0) (j := 0) (x := base + 44) X rfl rfl dX7_readStreet_17 rfl ?_
    refine r_getf (q := 21) (i := 44) (v := .ref (base + 45)) X fk_X7_7 kh_44 rfl rfl dX7_readStreet_18 rfl ?_
    refine r_iconst (q := 22) (v := nI 0) X kc_0 dX7_readStreet_21 rfl ?_
    refine r_iald (q := 23) (i := 45) (j := 0) (v := Mx 45 0) X kh_45 (by omega) (Nat.le_of_ble_eq_true rfl) (by simp [up2]) dX7_readStreet_22 rfl ?_
    refine r_bipush (q := 25) (v := nI 78) X kb_78 dX7_readStreet_23 rfl ?_
    have hb8 := hby 0 (by omega)
    refine r_icmp_eq (q := 28) (tgt := 30) X (by decide) dX7_readStreet_25 rfl (fun c25 => ?_) (fun c25 => ?_)
    · replace c25 : (Mx 45 0) = 78 := (kI_eq (by omega) (by omega)).mp c25
      refine r_aload_n (q := 31) (i := 0) (j := 0) (x := base + 44) X rfl rfl dX7_readStreet_30 rfl ?_
      refine r_iconst (q := 32) (v := nI 1) X kc_1 dX7_readStreet_31 rfl ?_
      refine r_puti (q := 35) (i := 44) (n := 1) X fk_X7_75 kp_X7_3 kh_44 rfl dX7_readStreet_32 rfl ?_
      refine r_aload_n (q := 36) (i := 0) (j := 0) (x := base + 44) X rfl rfl dX7_readStreet_35 rfl ?_
      refine r_aload_n (q := 37) (i := 0) (j := 0) (x := base + 44) X rfl rfl dX7_readStreet_36 rfl ?_
      refine r_bipush (q := 39) (v := nI 9) X kb_9 dX7_readStreet_37 rfl ?_
      refine r_callVi (q := 42) X (c7_figure K.2.1 G base _ Lx 9 (by decide) (by simp [up2]; exact hlen) (by simp [up2]; omega) (by simpa [up2] using hby)) kh_44 rfl ks_RX7_78 (by decide) (by decide) ⟨Nat.zero_le _, Nat.zero_le _⟩ rfl (Nat.le_of_ble_eq_true rfl) dX7_readStreet_39 rfl (fun r M1 L1 hp => ?_)
      replace hp : (r = (-9) ∧ ¬ (1 < Mx 44 2 ∧ isd (Mx 45 1) 9 = 1) ∧ M1 = (up2 (up2 (up2 Mx 44 3 0) 44 8 0) 44 3 1) ∧ L1 = Lx) ∨ (r = nI (Mx 45 1 - 48) ∧ 1 < Mx 44 2 ∧ isd (Mx 45 1) 9 = 1 ∧ M1 = up2 (up2 (up2 (up2 Mx 44 3 0) 44 8 0) 44 3 1) 44 3 2 ∧ L1 = Lx) := by simpa [up2] using hp
      rcases hp with ⟨e1, hno, hp2⟩ | ⟨e1, hlt, hyes, hp2⟩
      · subst e1
        obtain ⟨e2, e3⟩ := hp2
        replace e2 := e2.symm
        subst e2
        replace e3 := e3.symm
        subst e3
        rw [kM9]
        refine r_puti (q := 45) (i := 44) (n := 4294967287) X fk_X7_85 kp_X7_7 kh_44 rfl dX7_readStreet_42 rfl ?_
        refine r_aload_n (q := 46) (i := 0) (j := 0) (x := base + 44) X rfl rfl dX7_readStreet_45 rfl ?_
        refine r_getf (q := 49) (i := 44) (v := .int (nI (4294967287))) X fk_X7_85 kh_44 rfl (by simp [ks_v, up2]) dX7_readStreet_46 rfl ?_
        refine r_bipush (q := 51) (v := (-9)) X kb_m9 dX7_readStreet_49 rfl ?_
        refine r_icmp_ne (q := 54) (tgt := 59) X (by decide) dX7_readStreet_51 rfl (fun c51 => ?_) (fun c51 => ?_)
        · skip
          exact absurd kM9.symm c51
        · skip
          refine r_aload_n (q := 55) (i := 0) (j := 0) (x := base + 44) X rfl rfl dX7_readStreet_54 rfl ?_
          refine r_getf (q := 58) (i := 44) (v := .int (nI (1))) X fk_X7_75 kh_44 rfl (kv (by simp [up2])) dX7_readStreet_55 rfl ?_
          refine r_iret X Y ?_ dX7_readStreet_58
          refine Or.inl ⟨1, rfl, by omega, ⟨fun q hq => ?_, ?_⟩, ⟨fun a c ha hb => by simp [up2, ha], fun c h3 h7 h8 => by simp [up2, h3, h7, h8]⟩, rfl⟩
          · rw [show q = 0 by omega]; unfold fitn; rw [if_pos rfl, if_pos (by assumption)]
          · rcases (show 1 = Mx 44 2 ∨ 1 < Mx 44 2 by omega) with h | h
            · exact Or.inr ⟨h, fun h2 => by have := h2.2.1; omega⟩
            · refine Or.inl ⟨h, fun h2 => hno ⟨h, ?_⟩⟩
              unfold fitn at h2; rwa [if_neg (by decide), if_pos rfl] at h2
      · subst e1
        obtain ⟨e2, e3⟩ := hp2
        replace e2 := e2.symm
        subst e2
        replace e3 := e3.symm
        subst e3
        refine r_puti (q := 45) (i := 44) (n := Mx 45 1 - 48) X fk_X7_85 kp_X7_7 kh_44 rfl dX7_readStreet_42 rfl ?_
        refine r_aload_n (q := 46) (i := 0) (j := 0) (x := base + 44) X rfl rfl dX7_readStreet_45 rfl ?_
        refine r_getf (q := 49) (i := 44) (v := .int (nI (Mx 45 1 - 48))) X fk_X7_85 kh_44 rfl (by simp [ks_v, up2]) dX7_readStreet_46 rfl ?_
        refine r_bipush (q := 51) (v := (-9)) X kb_m9 dX7_readStreet_49 rfl ?_
        refine r_icmp_ne (q := 54) (tgt := 59) X (by decide) dX7_readStreet_51 rfl (fun c51 => ?_) (fun c51 => ?_)
        · skip
          refine r_pl [(0, .ref (base + 44))] ⟨rfl, trivial⟩ ?_
          refine lp 11 0 _ (by omega) ⟨⟨fun a c ha hb => by simp [up2, ha], fun c h3 h7 h8 => by simp [up2, h3, h7, h8]⟩, by simp [up2], by simp [up2], by simp [up2], by omega, by omega, fun q hq => ?_, fun c hc => absurd hc (by omega)⟩
          rcases (show q = 0 ∨ q = 1 by omega) with rfl | rfl
          · unfold fitn; rw [if_pos rfl, if_pos (by assumption)]
          · unfold fitn; rw [if_neg (by decide), if_pos rfl]; exact hyes
        · skip
          have hc1 := hby 1 hlt
          exact absurd c51 (k_ne9 (by omega))
    · replace c25 : ¬ (Mx 45 0) = 78 := fun h => (c25 ((kI_eq (by omega) (by omega)).mpr h))
      refine r_iconst (q := 29) (v := nI 0) X kc_0 dX7_readStreet_28 rfl ?_
      refine r_iret X Y ?_ dX7_readStreet_29
      refine Or.inl ⟨0, rfl, by omega, ⟨fun q hq => absurd hq (Nat.not_lt_zero _), ?_⟩, ⟨fun a c ha hb => by simp [up2, ha], fun c h3 h7 h8 => by simp [up2, h3, h7, h8]⟩, rfl⟩
      first
      | exact Or.inr ⟨by omega, fun h => by have := h.2.1; omega⟩
      | (refine Or.inl ⟨by omega, ?_⟩; unfold fitn; rw [if_pos rfl, if_neg (by assumption)]; decide)
end
section
/-! THE CLASS: the street asked, acts -/
set_option maxHeartbeats 8000000 in
theorem c_has6 (l : Launch) (G : ks_G) (base : Nat) (Mx : ks_M) (Lx : ks_L) (x : Int32) (hn : Mx 3 3 ≤ 6) : KI l G base 0 yX4_has cX4_has 2 .boolean [.ref (base + 3), .int (x)] SH Mx Lx (fun rr M1 L1 => (∃ k, rr = nI 1 ∧ k < Mx 3 3 ∧ x = nI k ∧ M1 = Mx ∧ L1 = Lx) ∨ (rr = nI 0 ∧ (∀ k, k < Mx 3 3 → x ≠ nI k) ∧ M1 = Mx ∧ L1 = Lx)) := by
  refine k_meti (by decide) (Nat.le_of_ble_eq_true rfl) (fun K hK X Y => ?_)
  subst hK
  refine r_pl [(0, .ref (base + 3)), (1, .int (x))] ⟨rfl, rfl, trivial⟩ ?_
  refine r_iload_n (q := 1) (i := 1) (j := 1) (x := x) X rfl rfl dX4_has_0 rfl ?_
  refine r_if_lt (q := 4) (tgt := 16) X (by decide) dX4_has_1 rfl (fun c1 => ?_) (fun c1 => ?_)
  · skip
    refine r_iconst (q := 17) (v := nI 0) X kc_0 dX4_has_16 rfl ?_
    refine r_zret X Y (by decide) ?_ dX4_has_17
    exact Or.inr ⟨rfl, fun k hk h => absurd (h ▸ c1) (nI_pos (by omega)), rfl, rfl⟩
  · skip
    obtain ⟨k, hk, rfl⟩ := nI_of c1
    refine r_iload_n (q := 5) (i := 1) (j := 1) (x := nI (k)) X rfl rfl dX4_has_4 rfl ?_
    refine r_aload_n (q := 6) (i := 0) (j := 0) (x := base + 3) X rfl rfl dX4_has_5 rfl ?_
    refine r_getf (q := 9) (i := 3) (v := .int (nI (Mx 3 3))) X fk_X4_21 kh_3 rfl rfl dX4_has_6 rfl ?_
    refine r_icmp_ge (q := 12) (tgt := 16) X (by decide) dX4_has_9 rfl (fun c9 => ?_) (fun c9 => ?_)
    · replace c9 : (Mx 3 3) ≤ k := (nI_leI (by omega) (by omega)).mp c9
      refine r_iconst (q := 17) (v := nI 0) X kc_0 dX4_has_16 rfl ?_
      refine r_zret X Y (by decide) ?_ dX4_has_17
      exact Or.inr ⟨rfl, fun k2 hk2 h => by have := (kI_eq hk (by omega)).mp h; omega, rfl, rfl⟩
    · replace c9 : ¬ (Mx 3 3) ≤ k := fun h => c9 ((nI_leI (by omega) (by omega)).mpr h)
      refine r_iconst (q := 13) (v := nI 1) X kc_1 dX4_has_12 rfl ?_
      refine r_goto (tgt := 17) X (by decide) dX4_has_13 ?_
      refine r_zret X Y (by decide) ?_ dX4_has_17
      exact Or.inl ⟨k, rfl, by omega, rfl, rfl, rfl⟩
set_option maxHeartbeats 8000000 in
theorem c_shapeOf (l : Launch) (G : ks_G) (base : Nat) (Mx : ks_M) (Lx : ks_L) (k : Nat) (hk : k < Mx 3 3) (hn : Mx 3 3 ≤ 6) : KI l G base 1 yX4_shapeOf cX4_shapeOf 2 .int [.ref (base + 3), .int (nI (k))] SH Mx Lx (fun rr M1 L1 => rr = nI (Mx 4 k) ∧ M1 = Mx ∧ L1 = Lx) := by
  refine k_meti (by decide) (Nat.le_of_ble_eq_true rfl) (fun K hK X Y => ?_)
  subst hK
  refine r_pl [(0, .ref (base + 3)), (1, .int (nI (k)))] ⟨rfl, rfl, trivial⟩ ?_
  refine r_aload_n (q := 1) (i := 0) (j := 0) (x := base + 3) X rfl rfl dX4_shapeOf_0 rfl ?_
  refine r_iload_n (q := 2) (i := 1) (j := 1) (x := nI (k)) X rfl rfl dX4_shapeOf_1 rfl ?_
  refine r_callVi (q := 5) X (c_has6 K.2.1 G base Mx Lx (nI k) hn) kh_3 rfl ks_RX4_51 (by decide) (by decide) ⟨Nat.zero_le _, Nat.zero_le _⟩ rfl (Nat.le_of_ble_eq_true rfl) dX4_shapeOf_2 rfl (fun r M1 L1 hp => ?_)
  rcases hp with ⟨k2, e1, hkn2, hxe, hp2⟩ | ⟨e1, hno, hp2⟩
  · subst e1
    obtain ⟨e2, e3⟩ := hp2
    replace e2 := e2.symm
    subst e2
    replace e3 := e3.symm
    subst e3
    refine r_if_eq (q := 8) (tgt := 17) X (by decide) dX4_shapeOf_5 rfl (fun c => absurd c (by decide)) (fun _ => ?_)
    refine r_aload_n (q := 9) (i := 0) (j := 0) (x := base + 3) X rfl rfl dX4_shapeOf_8 rfl ?_
    refine r_getf (q := 12) (i := 3) (v := .ref (base + 4)) X fk_X4_9 kh_3 rfl rfl dX4_shapeOf_9 rfl ?_
    refine r_iload_n (q := 13) (i := 1) (j := 1) (x := nI (k)) X rfl rfl dX4_shapeOf_12 rfl ?_
    refine r_iald (q := 14) (i := 4) (j := k) (v := Mx 4 k) X kh_4 (by omega) (Nat.le_of_ble_eq_true rfl) rfl dX4_shapeOf_13 rfl ?_
    refine r_goto (tgt := 18) X (by decide) dX4_shapeOf_14 ?_
    refine r_iret X Y ?_ dX4_shapeOf_18
    exact ⟨rfl, rfl, rfl⟩
  · exact absurd rfl (hno k hk)
set_option maxHeartbeats 8000000 in
theorem c_newsOf (l : Launch) (G : ks_G) (base : Nat) (Mx : ks_M) (Lx : ks_L) (k t : Nat) (hk : k < Mx 3 3) (hn : Mx 3 3 ≤ 6) (ht : t < 2147483648) : KI l G base 1 yX4_newsOf cX4_newsOf 3 .int [.ref (base + 3), .int (nI (k)), .int (nI (t))] SH Mx Lx (fun rr M1 L1 => rr = nI (Mx 5 (k * 3 + t % 3)) ∧ M1 = Mx ∧ L1 = Lx) := by
  refine k_meti (by decide) (Nat.le_of_ble_eq_true rfl) (fun K hK X Y => ?_)
  subst hK
  refine r_pl [(0, .ref (base + 3)), (1, .int (nI (k))), (2, .int (nI (t)))] ⟨rfl, rfl, rfl, trivial⟩ ?_
  refine r_aload_n (q := 1) (i := 0) (j := 0) (x := base + 3) X rfl rfl dX4_newsOf_0 rfl ?_
  refine r_iload_n (q := 2) (i := 1) (j := 1) (x := nI (k)) X rfl rfl dX4_newsOf_1 rfl ?_
  refine r_callVi (q := 5) X (c_has6 K.2.1 G base Mx Lx (nI k) hn) kh_3 rfl ks_RX4_51 (by decide) (by decide) ⟨Nat.zero_le _, Nat.zero_le _⟩ rfl (Nat.le_of_ble_eq_true rfl) dX4_newsOf_2 rfl (fun r M1 L1 hp => ?_)
  rcases hp with ⟨k2, e1, hkn2, hxe, hp2⟩ | ⟨e1, hno, hp2⟩
  · subst e1
    obtain ⟨e2, e3⟩ := hp2
    replace e2 := e2.symm
    subst e2
    replace e3 := e3.symm
    subst e3
    refine r_if_eq (q := 8) (tgt := 25) X (by decide) dX4_newsOf_5 rfl (fun c => absurd c (by decide)) (fun _ => ?_)
    refine r_aload_n (q := 9) (i := 0) (j := 0) (x := base + 3) X rfl rfl dX4_newsOf_8 rfl ?_
    refine r_getf (q := 12) (i := 3) (v := .ref (base + 5)) X fk_X4_15 kh_3 rfl rfl dX4_newsOf_9 rfl ?_
    refine r_iload_n (q := 13) (i := 1) (j := 1) (x := nI (k)) X rfl rfl dX4_newsOf_12 rfl ?_
    refine r_iconst (q := 14) (v := nI 3) X kc_3 dX4_newsOf_13 rfl ?_
    refine r_imulR (q := 15) (x := nI (k)) (y := nI 3) (v := nI (k * 3)) X (pk_mul _ _) dX4_newsOf_14 rfl ?_
    refine r_iload_n (q := 16) (i := 2) (j := 2) (x := nI (t)) X rfl rfl dX4_newsOf_15 rfl ?_
    refine r_iconst (q := 17) (v := nI 3) X kc_3 dX4_newsOf_16 rfl ?_
    refine r_callSi (q := 20) X (c_fmod K.2.1 G base Mx Lx t 3 (by decide) ht (by decide)) ks_RX4_55 (by decide) (by decide) ⟨Nat.zero_le _, Nat.zero_le _⟩ rfl (Nat.le_of_ble_eq_true rfl) dX4_newsOf_17 rfl (fun r M1 L1 hp => ?_)
    obtain ⟨e1, e2, e3⟩ := hp
    subst e1
    replace e2 := e2.symm
    subst e2
    replace e3 := e3.symm
    subst e3
    refine r_iaddR (q := 21) (x := nI (k * 3)) (y := nI (t % 3)) (v := nI ((k * 3) + (t % 3))) X (nI_add _ _) dX4_newsOf_20 rfl ?_
    refine r_iald (q := 22) (i := 5) (j := (k * 3) + (t % 3)) (v := Mx 5 ((k * 3) + (t % 3))) X kh_5 (by omega) (Nat.le_of_ble_eq_true rfl) rfl dX4_newsOf_21 rfl ?_
    refine r_goto (tgt := 26) X (by decide) dX4_newsOf_22 ?_
    refine r_iret X Y ?_ dX4_newsOf_26
    exact ⟨rfl, rfl, rfl⟩
  · exact absurd rfl (hno k hk)
def ab6 (M : ks_M) (j : Nat) : Nat := if j = 0 then M 3 3 else if j = 1 then M 7 0 else if j = 2 then M 7 1 else if j = 3 then M 7 2 else if j = 4 then M 7 3 else if j = 5 then M 7 4 else if j = 6 then M 7 5 else if j = 7 then M 9 2 else if j = 8 then M 35 4 else M 1 1
def hv6 (M : ks_M) (k j : Nat) : Nat := if j = 0 then M 4 k else if j < 4 then M 5 (k * 3 + (j - 1)) else M 7 6 >>> (k * 3) &&& 7
set_option maxHeartbeats 8000000 in
theorem c6_about (l : Launch) (G : ks_G) (base : Nat) (Mx : ks_M) (Lx : ks_L) (x : Int32) : KI l G base 0 yX6_about cX6_about 2 .int [.ref (base + 0), .int (x)] SH Mx Lx (fun rr M1 L1 => (∃ j, j ≤ 9 ∧ x = nI j ∧ rr = nI (ab6 Mx j) ∧ M1 = Mx ∧ L1 = Lx) ∨ (rr = (-2) ∧ (∀ j, j ≤ 9 → x ≠ nI j) ∧ M1 = Mx ∧ L1 = Lx)) := by
  refine k_meti (by decide) (Nat.le_of_ble_eq_true rfl) (fun K hK X Y => ?_)
  subst hK
  refine r_pl [(0, .ref (base + 0)), (1, .int (x))] ⟨rfl, rfl, trivial⟩ ?_
  refine r_iload_n (q := 1) (i := 1) (j := 1) (x := x) X rfl rfl dX6_about_0 rfl ?_
  rcases kTab 0 9 (by decide) (x) with ⟨j1, hj1, hk1, e1⟩ | hn1
  · obtain rfl | rfl | rfl | rfl | rfl | rfl | rfl | rfl | rfl | rfl : j1 = 0 ∨ j1 = 1 ∨ j1 = 2 ∨ j1 = 3 ∨ j1 = 4 ∨ j1 = 5 ∨ j1 = 6 ∨ j1 = 7 ∨ j1 = 8 ∨ j1 = 9 := by omega
    · subst e1
      refine r_tableIn (x := nI 0) (off := 55) (tgt := 56) X (by decide) (by decide) (by decide) (by decide) dX6_about_1 ?_
      refine r_aload_n (q := 57) (i := 0) (j := 0) (x := base + 0) X rfl rfl dX6_about_56 rfl ?_
      refine r_getf (q := 60) (i := 0) (v := .ref (base + 3)) X fk_X6_19 kh_0 rfl rfl dX6_about_57 rfl ?_
      refine r_getf (q := 63) (i := 3) (v := .int (nI (Mx 3 3))) X fk_X6_96 kh_3 rfl rfl dX6_about_60 rfl ?_
      refine r_iret X Y ?_ dX6_about_63
      exact Or.inl ⟨0, by decide, rfl, rfl, rfl, rfl⟩
    · subst e1
      refine r_tableIn (x := nI 1) (off := 63) (tgt := 64) X (by decide) (by decide) (by decide) (by decide) dX6_about_1 ?_
      refine r_aload_n (q := 65) (i := 0) (j := 0) (x := base + 0) X rfl rfl dX6_about_64 rfl ?_
      refine r_getf (q := 68) (i := 0) (v := .ref (base + 7)) X fk_X6_26 kh_0 rfl rfl dX6_about_65 rfl ?_
      refine r_getf (q := 71) (i := 7) (v := .int (nI (Mx 7 0))) X fk_X6_97 kh_7 rfl rfl dX6_about_68 rfl ?_
      refine r_iret X Y ?_ dX6_about_71
      exact Or.inl ⟨1, by decide, rfl, rfl, rfl, rfl⟩
    · subst e1
      refine r_tableIn (x := nI 2) (off := 71) (tgt := 72) X (by decide) (by decide) (by decide) (by decide) dX6_about_1 ?_
      refine r_aload_n (q := 73) (i := 0) (j := 0) (x := base + 0) X rfl rfl dX6_about_72 rfl ?_
      refine r_getf (q := 76) (i := 0) (v := .ref (base + 7)) X fk_X6_26 kh_0 rfl rfl dX6_about_73 rfl ?_
      refine r_getf (q := 79) (i := 7) (v := .int (nI (Mx 7 1))) X fk_X6_100 kh_7 rfl rfl dX6_about_76 rfl ?_
      refine r_iret X Y ?_ dX6_about_79
      exact Or.inl ⟨2, by decide, rfl, rfl, rfl, rfl⟩
    · subst e1
      refine r_tableIn (x := nI 3) (off := 79) (tgt := 80) X (by decide) (by decide) (by decide) (by decide) dX6_about_1 ?_
      refine r_aload_n (q := 81) (i := 0) (j := 0) (x := base + 0) X rfl rfl dX6_about_80 rfl ?_
      refine r_getf (q := 84) (i := 0) (v := .ref (base + 7)) X fk_X6_26 kh_0 rfl rfl dX6_about_81 rfl ?_
      refine r_getf (q := 87) (i := 7) (v := .int (nI (Mx 7 2))) X fk_X6_103 kh_7 rfl rfl dX6_about_84 rfl ?_
      refine r_iret X Y ?_ dX6_about_87
      exact Or.inl ⟨3, by decide, rfl, rfl, rfl, rfl⟩
    · subst e1
      refine r_tableIn (x := nI 4) (off := 87) (tgt := 88) X (by decide) (by decide) (by decide) (by decide) dX6_about_1 ?_
      refine r_aload_n (q := 89) (i := 0) (j := 0) (x := base + 0) X rfl rfl dX6_about_88 rfl ?_
      refine r_getf (q := 92) (i := 0) (v := .ref (base + 7)) X fk_X6_26 kh_0 rfl rfl dX6_about_89 rfl ?_
      refine r_getf (q := 95) (i := 7) (v := .int (nI (Mx 7 3))) X fk_X6_106 kh_7 rfl rfl dX6_about_92 rfl ?_
      refine r_iret X Y ?_ dX6_about_95
      exact Or.inl ⟨4, by decide, rfl, rfl, rfl, rfl⟩
    · subst e1
      refine r_tableIn (x := nI 5) (off := 95) (tgt := 96) X (by decide) (by decide) (by decide) (by decide) dX6_about_1 ?_
      refine r_aload_n (q := 97) (i := 0) (j := 0) (x := base + 0) X rfl rfl dX6_about_96 rfl ?_
      refine r_getf (q := 100) (i := 0) (v := .ref (base + 7)) X fk_X6_26 kh_0 rfl rfl dX6_about_97 rfl ?_
      refine r_getf (q := 103) (i := 7) (v := .int (nI (Mx 7 4))) X fk_X6_109 kh_7 rfl rfl dX6_about_100 rfl ?_
      refine r_iret X Y ?_ dX6_about_103
      exact Or.inl ⟨5, by decide, rfl, rfl, rfl, rfl⟩
    · subst e1
      refine r_tableIn (x := nI 6) (off := 103) (tgt := 104) X (by decide) (by decide) (by decide) (by decide) dX6_about_1 ?_
      refine r_aload_n (q := 105) (i := 0) (j := 0) (x := base + 0) X rfl rfl dX6_about_104 rfl ?_
      refine r_getf (q := 108) (i := 0) (v := .ref (base + 7)) X fk_X6_26 kh_0 rfl rfl dX6_about_105 rfl ?_
      refine r_getf (q := 111) (i := 7) (v := .int (nI (Mx 7 5))) X fk_X6_112 kh_7 rfl rfl dX6_about_108 rfl ?_
      refine r_iret X Y ?_ dX6_about_111
      exact Or.inl ⟨6, by decide, rfl, rfl, rfl, rfl⟩
    · subst e1
      refine r_tableIn (x := nI 7) (off := 111) (tgt := 112) X (by decide) (by decide) (by decide) (by decide) dX6_about_1 ?_
      refine r_aload_n (q := 113) (i := 0) (j := 0) (x := base + 0) X rfl rfl dX6_about_112 rfl ?_
      refine r_getf (q := 116) (i := 0) (v := .ref (base + 9)) X fk_X6_36 kh_0 rfl rfl dX6_about_113 rfl ?_
      refine r_getf (q := 119) (i := 9) (v := .int (nI (Mx 9 2))) X fk_X6_93 kh_9 rfl rfl dX6_about_116 rfl ?_
      refine r_iret X Y ?_ dX6_about_119
      exact Or.inl ⟨7, by decide, rfl, rfl, rfl, rfl⟩
    · subst e1
      refine r_tableIn (x := nI 8) (off := 119) (tgt := 120) X (by decide) (by decide) (by decide) (by decide) dX6_about_1 ?_
      refine r_aload_n (q := 121) (i := 0) (j := 0) (x := base + 0) X rfl rfl dX6_about_120 rfl ?_
      refine r_getf (q := 124) (i := 0) (v := .ref (base + 35)) X fk_X6_50 kh_0 rfl rfl dX6_about_121 rfl ?_
      refine r_getf (q := 127) (i := 35) (v := .int (nI (Mx 35 4))) X fk_X6_115 kh_35 rfl rfl dX6_about_124 rfl ?_
      refine r_iret X Y ?_ dX6_about_127
      exact Or.inl ⟨8, by decide, rfl, rfl, rfl, rfl⟩
    · subst e1
      refine r_tableIn (x := nI 9) (off := 127) (tgt := 128) X (by decide) (by decide) (by decide) (by decide) dX6_about_1 ?_
      refine r_aload_n (q := 129) (i := 0) (j := 0) (x := base + 0) X rfl rfl dX6_about_128 rfl ?_
      refine r_getf (q := 132) (i := 0) (v := .ref (base + 1)) X fk_X6_10 kh_0 rfl rfl dX6_about_129 rfl ?_
      refine r_getf (q := 135) (i := 1) (v := .int (nI (Mx 1 1))) X fk_X6_74 kh_1 rfl rfl dX6_about_132 rfl ?_
      refine r_iret X Y ?_ dX6_about_135
      exact Or.inl ⟨9, by decide, rfl, rfl, rfl, rfl⟩
  · refine r_tableOut (tgt := 136) X hn1 (by decide) dX6_about_1 ?_
    refine r_bipush (q := 138) (v := (-2)) X kb_m2 dX6_about_136 rfl ?_
    refine r_iret X Y ?_ dX6_about_138
    refine Or.inr ⟨rfl, fun j hj h => ?_, rfl, rfl⟩
    rw [h] at hn1
    rw [nI_toInt (by omega)] at hn1
    omega
set_option maxHeartbeats 8000000 in
theorem c6_house (l : Launch) (G : ks_G) (base : Nat) (Mx : ks_M) (Lx : ks_L) (x z : Int32) (hn : Mx 3 3 ≤ 6) (h6 : Mx 7 6 < 262144) : KI l G base 2 yX6_house cX6_house 3 .int [.ref (base + 0), .int (x), .int (z)] SH Mx Lx (fun rr M1 L1 => ((rr = (-1) ∧ (∀ k, k < Mx 3 3 → x ≠ nI k)) ∨ (∃ k, k < Mx 3 3 ∧ x = nI k ∧ ((∃ j, j ≤ 4 ∧ z = nI j ∧ rr = nI (hv6 Mx k j)) ∨ (rr = (-2) ∧ ∀ j, j ≤ 4 → z ≠ nI j)))) ∧ M1 = Mx ∧ L1 = Lx) := by
  refine k_meti (by decide) (Nat.le_of_ble_eq_true rfl) (fun K hK X Y => ?_)
  subst hK
  refine r_pl [(0, .ref (base + 0)), (1, .int (x)), (2, .int (z))] ⟨rfl, rfl, rfl, trivial⟩ ?_
  refine r_aload_n (q := 1) (i := 0) (j := 0) (x := base + 0) X rfl rfl dX6_house_0 rfl ?_
  refine r_getf (q := 4) (i := 0) (v := .ref (base + 3)) X fk_X6_19 kh_0 rfl rfl dX6_house_1 rfl ?_
  refine r_iload_n (q := 5) (i := 1) (j := 1) (x := x) X rfl rfl dX6_house_4 rfl ?_
  refine r_callVi (q := 8) X (c_has6 K.2.1 G base Mx Lx x hn) kh_3 rfl ks_RX6_116 (by decide) (by decide) ⟨Nat.zero_le _, Nat.zero_le _⟩ rfl (Nat.le_of_ble_eq_true rfl) dX6_house_5 rfl (fun r M1 L1 hp => ?_)
  rcases hp with ⟨k, e1, hkn, hxe, hp2⟩ | ⟨e1, hno, hp2⟩
  · subst e1
    obtain ⟨e2, e3⟩ := hp2
    replace e2 := e2.symm
    subst e2
    replace e3 := e3.symm
    subst e3
    subst hxe
    refine r_if_ne (q := 11) (tgt := 13) X (by decide) dX6_house_8 rfl (fun _ => ?_) (fun c => absurd c (by decide))
    refine r_iload_n (q := 14) (i := 2) (j := 2) (x := z) X rfl rfl dX6_house_13 rfl ?_
    rcases kTab 0 4 (by decide) (z) with ⟨j14, hj14, hk14, e14⟩ | hn14
    · obtain rfl | rfl | rfl | rfl | rfl : j14 = 0 ∨ j14 = 1 ∨ j14 = 2 ∨ j14 = 3 ∨ j14 = 4 := by omega
      · subst e14
        refine r_tableIn (x := nI 0) (off := 34) (tgt := 48) X (by decide) (by decide) (by decide) (by decide) dX6_house_14 ?_
        refine r_aload_n (q := 49) (i := 0) (j := 0) (x := base + 0) X rfl rfl dX6_house_48 rfl ?_
        refine r_getf (q := 52) (i := 0) (v := .ref (base + 3)) X fk_X6_19 kh_0 rfl rfl dX6_house_49 rfl ?_
        refine r_iload_n (q := 53) (i := 1) (j := 1) (x := nI (k)) X rfl rfl dX6_house_52 rfl ?_
        refine r_callVi (q := 56) X (c_shapeOf K.2.1 G base Mx Lx k hkn hn) kh_3 rfl ks_RX6_120 (by decide) (by decide) ⟨Nat.zero_le _, Nat.zero_le _⟩ rfl (Nat.le_of_ble_eq_true rfl) dX6_house_53 rfl (fun r M1 L1 hp => ?_)
        obtain ⟨e1, e2, e3⟩ := hp
        subst e1
        replace e2 := e2.symm
        subst e2
        replace e3 := e3.symm
        subst e3
        refine r_iret X Y ?_ dX6_house_56
        exact ⟨Or.inr ⟨k, hkn, rfl, Or.inl ⟨0, by decide, rfl, rfl⟩⟩, rfl, rfl⟩
      · subst e14
        refine r_tableIn (x := nI 1) (off := 43) (tgt := 57) X (by decide) (by decide) (by decide) (by decide) dX6_house_14 ?_
        refine r_aload_n (q := 58) (i := 0) (j := 0) (x := base + 0) X rfl rfl dX6_house_57 rfl ?_
        refine r_getf (q := 61) (i := 0) (v := .ref (base + 3)) X fk_X6_19 kh_0 rfl rfl dX6_house_58 rfl ?_
        refine r_iload_n (q := 62) (i := 1) (j := 1) (x := nI (k)) X rfl rfl dX6_house_61 rfl ?_
        refine r_iload_n (q := 63) (i := 2) (j := 2) (x := nI (1)) X rfl rfl dX6_house_62 rfl ?_
        refine r_iconst (q := 64) (v := nI 1) X kc_1 dX6_house_63 rfl ?_
        refine r_isubR (q := 65) (x := nI (1)) (y := nI 1) (v := nI (1 - 1)) X (pk_sub (by decide)) dX6_house_64 rfl ?_
        refine r_callVi (q := 68) X (c_newsOf K.2.1 G base Mx Lx k (1 - 1) hkn hn (by decide)) kh_3 rfl ks_RX6_124 (by decide) (by decide) ⟨Nat.zero_le _, Nat.zero_le _⟩ rfl (Nat.le_of_ble_eq_true rfl) dX6_house_65 rfl (fun r M1 L1 hp => ?_)
        obtain ⟨e1, e2, e3⟩ := hp
        subst e1
        replace e2 := e2.symm
        subst e2
        replace e3 := e3.symm
        subst e3
        refine r_iret X Y ?_ dX6_house_68
        exact ⟨Or.inr ⟨k, hkn, rfl, Or.inl ⟨1, by decide, rfl, rfl⟩⟩, rfl, rfl⟩
      · subst e14
        refine r_tableIn (x := nI 2) (off := 43) (tgt := 57) X (by decide) (by decide) (by decide) (by decide) dX6_house_14 ?_
        refine r_aload_n (q := 58) (i := 0) (j := 0) (x := base + 0) X rfl rfl dX6_house_57 rfl ?_
        refine r_getf (q := 61) (i := 0) (v := .ref (base + 3)) X fk_X6_19 kh_0 rfl rfl dX6_house_58 rfl ?_
        refine r_iload_n (q := 62) (i := 1) (j := 1) (x := nI (k)) X rfl rfl dX6_house_61 rfl ?_
        refine r_iload_n (q := 63) (i := 2) (j := 2) (x := nI (2)) X rfl rfl dX6_house_62 rfl ?_
        refine r_iconst (q := 64) (v := nI 1) X kc_1 dX6_house_63 rfl ?_
        refine r_isubR (q := 65) (x := nI (2)) (y := nI 1) (v := nI (2 - 1)) X (pk_sub (by decide)) dX6_house_64 rfl ?_
        refine r_callVi (q := 68) X (c_newsOf K.2.1 G base Mx Lx k (2 - 1) hkn hn (by decide)) kh_3 rfl ks_RX6_124 (by decide) (by decide) ⟨Nat.zero_le _, Nat.zero_le _⟩ rfl (Nat.le_of_ble_eq_true rfl) dX6_house_65 rfl (fun r M1 L1 hp => ?_)
        obtain ⟨e1, e2, e3⟩ := hp
        subst e1
        replace e2 := e2.symm
        subst e2
        replace e3 := e3.symm
        subst e3
        refine r_iret X Y ?_ dX6_house_68
        exact ⟨Or.inr ⟨k, hkn, rfl, Or.inl ⟨2, by decide, rfl, rfl⟩⟩, rfl, rfl⟩
      · subst e14
        refine r_tableIn (x := nI 3) (off := 43) (tgt := 57) X (by decide) (by decide) (by decide) (by decide) dX6_house_14 ?_
        refine r_aload_n (q := 58) (i := 0) (j := 0) (x := base + 0) X rfl rfl dX6_house_57 rfl ?_
        refine r_getf (q := 61) (i := 0) (v := .ref (base + 3)) X fk_X6_19 kh_0 rfl rfl dX6_house_58 rfl ?_
        refine r_iload_n (q := 62) (i := 1) (j := 1) (x := nI (k)) X rfl rfl dX6_house_61 rfl ?_
        refine r_iload_n (q := 63) (i := 2) (j := 2) (x := nI (3)) X rfl rfl dX6_house_62 rfl ?_
        refine r_iconst (q := 64) (v := nI 1) X kc_1 dX6_house_63 rfl ?_
        refine r_isubR (q := 65) (x := nI (3)) (y := nI 1) (v := nI (3 - 1)) X (pk_sub (by decide)) dX6_house_64 rfl ?_
        refine r_callVi (q := 68) X (c_newsOf K.2.1 G base Mx Lx k (3 - 1) hkn hn (by decide)) kh_3 rfl ks_RX6_124 (by decide) (by decide) ⟨Nat.zero_le _, Nat.zero_le _⟩ rfl (Nat.le_of_ble_eq_true rfl) dX6_house_65 rfl (fun r M1 L1 hp => ?_)
        obtain ⟨e1, e2, e3⟩ := hp
        subst e1
        replace e2 := e2.symm
        subst e2
        replace e3 := e3.symm
        subst e3
        refine r_iret X Y ?_ dX6_house_68
        exact ⟨Or.inr ⟨k, hkn, rfl, Or.inl ⟨3, by decide, rfl, rfl⟩⟩, rfl, rfl⟩
      · subst e14
        refine r_tableIn (x := nI 4) (off := 55) (tgt := 69) X (by decide) (by decide) (by decide) (by decide) dX6_house_14 ?_
        refine r_aload_n (q := 70) (i := 0) (j := 0) (x := base + 0) X rfl rfl dX6_house_69 rfl ?_
        refine r_getf (q := 73) (i := 0) (v := .ref (base + 7)) X fk_X6_26 kh_0 rfl rfl dX6_house_70 rfl ?_
        refine r_iload_n (q := 74) (i := 1) (j := 1) (x := nI (k)) X rfl rfl dX6_house_73 rfl ?_
        refine r_callVi (q := 77) X (c_readOf K.2.1 G base Mx Lx 7 kh_7 k (by omega) (by omega)) kh_7 rfl ks_RX6_128 (by decide) (by decide) ⟨Nat.zero_le _, Nat.zero_le _⟩ rfl (Nat.le_of_ble_eq_true rfl) dX6_house_74 rfl (fun r M1 L1 hp => ?_)
        obtain ⟨e1, e2, e3⟩ := hp
        subst e1
        replace e2 := e2.symm
        subst e2
        replace e3 := e3.symm
        subst e3
        refine r_iret X Y ?_ dX6_house_77
        exact ⟨Or.inr ⟨k, hkn, rfl, Or.inl ⟨4, by decide, rfl, rfl⟩⟩, rfl, rfl⟩
    · refine r_tableOut (tgt := 78) X hn14 (by decide) dX6_house_14 ?_
      refine r_bipush (q := 80) (v := (-2)) X kb_m2 dX6_house_78 rfl ?_
      refine r_iret X Y ?_ dX6_house_80
      refine ⟨Or.inr ⟨k, hkn, rfl, Or.inr ⟨rfl, fun j hj h => ?_⟩⟩, rfl, rfl⟩
      rw [h] at hn14
      rw [nI_toInt (by omega)] at hn14
      omega
  · subst e1
    obtain ⟨e2, e3⟩ := hp2
    replace e2 := e2.symm
    subst e2
    replace e3 := e3.symm
    subst e3
    refine r_if_ne (q := 11) (tgt := 13) X (by decide) dX6_house_8 rfl (fun c => absurd c (by decide)) (fun _ => ?_)
    refine r_iconst (q := 12) (v := (-1)) X kc_m1 dX6_house_11 rfl ?_
    refine r_iret X Y ?_ dX6_house_12
    exact ⟨Or.inl ⟨rfl, hno⟩, rfl, rfl⟩
set_option maxHeartbeats 8000000 in
theorem c6_sight (l : Launch) (G : ks_G) (base : Nat) (Mx : ks_M) (Lx : ks_L) (x z : Int32) (hn : Mx 3 3 ≤ 6) (h4 : Mx 7 4 < 64) (h5 : Mx 7 5 < 64) : KI l G base 2 yX6_sight cX6_sight 3 .int [.ref (base + 0), .int (x), .int (z)] SH Mx Lx (fun rr M1 L1 => ((rr = (-1) ∧ (∀ k, k < Mx 3 3 → x ≠ nI k)) ∨ (∃ k, k < Mx 3 3 ∧ x = nI k ∧ ((∃ j, j ≤ 99 ∧ z = nI j ∧ rr = nI (sgv (Mx 6) (Mx 7) k j)) ∨ (rr = (-2) ∧ ∀ j, j ≤ 99 → z ≠ nI j)))) ∧ M1 = Mx ∧ L1 = Lx) := by
  refine k_meti (by decide) (Nat.le_of_ble_eq_true rfl) (fun K hK X Y => ?_)
  subst hK
  refine r_pl [(0, .ref (base + 0)), (1, .int (x)), (2, .int (z))] ⟨rfl, rfl, rfl, trivial⟩ ?_
  refine r_aload_n (q := 1) (i := 0) (j := 0) (x := base + 0) X rfl rfl dX6_sight_0 rfl ?_
  refine r_getf (q := 4) (i := 0) (v := .ref (base + 3)) X fk_X6_19 kh_0 rfl rfl dX6_sight_1 rfl ?_
  refine r_iload_n (q := 5) (i := 1) (j := 1) (x := x) X rfl rfl dX6_sight_4 rfl ?_
  refine r_callVi (q := 8) X (c_has6 K.2.1 G base Mx Lx x hn) kh_3 rfl ks_RX6_116 (by decide) (by decide) ⟨Nat.zero_le _, Nat.zero_le _⟩ rfl (Nat.le_of_ble_eq_true rfl) dX6_sight_5 rfl (fun r M1 L1 hp => ?_)
  rcases hp with ⟨k, e1, hkn, hxe, hp2⟩ | ⟨e1, hno, hp2⟩
  · subst e1
    obtain ⟨e2, e3⟩ := hp2
    replace e2 := e2.symm
    subst e2
    replace e3 := e3.symm
    subst e3
    subst hxe
    refine r_if_ne (q := 11) (tgt := 13) X (by decide) dX6_sight_8 rfl (fun _ => ?_) (fun c => absurd c (by decide))
    refine r_iload_n (q := 14) (i := 2) (j := 2) (x := z) X rfl rfl dX6_sight_13 rfl ?_
    refine r_if_lt (q := 17) (tgt := 23) X (by decide) dX6_sight_14 rfl (fun c14 => ?_) (fun c14 => ?_)
    · skip
      refine r_bipush (q := 25) (v := (-2)) X kb_m2 dX6_sight_23 rfl ?_
      refine r_iret X Y ?_ dX6_sight_25
      refine ⟨Or.inr ⟨k, hkn, rfl, Or.inr ⟨rfl, fun j2 hj2 h => ?_⟩⟩, rfl, rfl⟩
      rw [h] at c14; exact absurd c14 (nI_pos (by omega))
    · skip
      obtain ⟨j, hj, rfl⟩ := nI_of c14
      refine r_iload_n (q := 18) (i := 2) (j := 2) (x := nI (j)) X rfl rfl dX6_sight_17 rfl ?_
      refine r_bipush (q := 20) (v := nI 99) X kb_99 dX6_sight_18 rfl ?_
      refine r_icmp_le (q := 23) (tgt := 26) X (by decide) dX6_sight_20 rfl (fun c20 => ?_) (fun c20 => ?_)
      · replace c20 : j ≤ 99 := (nI_leI (by omega) (by omega)).mp c20
        refine r_aload_n (q := 27) (i := 0) (j := 0) (x := base + 0) X rfl rfl dX6_sight_26 rfl ?_
        refine r_getf (q := 30) (i := 0) (v := .ref (base + 7)) X fk_X6_26 kh_0 rfl rfl dX6_sight_27 rfl ?_
        refine r_aload_n (q := 31) (i := 0) (j := 0) (x := base + 0) X rfl rfl dX6_sight_30 rfl ?_
        refine r_getf (q := 34) (i := 0) (v := .ref (base + 3)) X fk_X6_19 kh_0 rfl rfl dX6_sight_31 rfl ?_
        refine r_iload_n (q := 35) (i := 1) (j := 1) (x := nI (k)) X rfl rfl dX6_sight_34 rfl ?_
        refine r_iload_n (q := 36) (i := 2) (j := 2) (x := nI (j)) X rfl rfl dX6_sight_35 rfl ?_
        refine r_callVi (q := 39) X (c_shown K.2.1 G base Mx Lx 7 kh_7 k j (by omega) (by omega) (by omega) (by omega)) kh_7 rfl ks_RX6_131 (by decide) (by decide) ⟨Nat.zero_le _, Nat.zero_le _⟩ rfl (Nat.le_of_ble_eq_true rfl) dX6_sight_36 rfl (fun r M1 L1 hp => ?_)
        obtain ⟨e1, e2, e3⟩ := hp
        subst e1
        replace e2 := e2.symm
        subst e2
        replace e3 := e3.symm
        subst e3
        refine r_iret X Y ?_ dX6_sight_39
        exact ⟨Or.inr ⟨k, hkn, rfl, Or.inl ⟨j, by omega, rfl, rfl⟩⟩, rfl, rfl⟩
      · replace c20 : ¬ j ≤ 99 := fun h => c20 ((nI_leI (by omega) (by omega)).mpr h)
        refine r_bipush (q := 25) (v := (-2)) X kb_m2 dX6_sight_23 rfl ?_
        refine r_iret X Y ?_ dX6_sight_25
        refine ⟨Or.inr ⟨k, hkn, rfl, Or.inr ⟨rfl, fun j2 hj2 h => ?_⟩⟩, rfl, rfl⟩
        have := (kI_eq hj (by omega)).mp h; omega
  · subst e1
    obtain ⟨e2, e3⟩ := hp2
    replace e2 := e2.symm
    subst e2
    replace e3 := e3.symm
    subst e3
    refine r_if_ne (q := 11) (tgt := 13) X (by decide) dX6_sight_8 rfl (fun c => absurd c (by decide)) (fun _ => ?_)
    refine r_iconst (q := 12) (v := (-1)) X kc_m1 dX6_sight_11 rfl ?_
    refine r_iret X Y ?_ dX6_sight_12
    exact ⟨Or.inl ⟨rfl, hno⟩, rfl, rfl⟩
theorem kd10 {j : Nat} (h : j < 14) : ([(3, 11), (3, 12), (3, 13), (3, 14), (3, 15), (3, 16), (3, 17), (3, 18), (3, 19), (3, 20), (3, 21), (3, 22), (3, 23), (3, 24)] : List (Nat × Nat))[j]? = some (3, 11 + j) := (show ∀ j, j < 14 → ([(3, 11), (3, 12), (3, 13), (3, 14), (3, 15), (3, 16), (3, 17), (3, 18), (3, 19), (3, 20), (3, 21), (3, 22), (3, 23), (3, 24)] : List (Nat × Nat))[j]? = some (3, 11 + j) by decide) j h
theorem kh_acts {j : Nat} (h : j < 14) : SH[11 + j]? = some kSt := by
  rcases (show j = 0 ∨ j = 1 ∨ j = 2 ∨ j = 3 ∨ j = 4 ∨ j = 5 ∨ j = 6 ∨ j = 7 ∨ j = 8 ∨ j = 9 ∨ j = 10 ∨ j = 11 ∨ j = 12 ∨ j = 13 by omega) with rfl | rfl | rfl | rfl | rfl | rfl | rfl | rfl | rfl | rfl | rfl | rfl | rfl | rfl <;> rfl
def sv6 (M : ks_M) (i : Nat) : ks_M := sr M (11 + (M 9 1 + M 9 2) % 14) (cp7 (M (11 + (M 9 1 + M 9 2) % 14)) (M i))
def rem6 (M : ks_M) (i : Nat) : ks_M := if M 9 2 < 14 then up2 (sv6 M i) 9 2 (M 9 2 + 1) else up2 (sv6 M i) 9 1 ((M 9 1 + 1) % 14)
def bk6 (M : ks_M) (i : Nat) : ks_M := sr (up2 M 9 2 (M 9 2 - 1)) i (cp7 (M i) (M (11 + (M 9 1 + (M 9 2 - 1)) % 14)))
theorem sv6_o {M : ks_M} {i a : Nat} (h : a < 11) : sv6 M i a = M a := sr_o (by omega)
set_option maxHeartbeats 8000000 in
theorem c_remember (l : Launch) (G : ks_G) (base : Nat) (Mx : ks_M) (Lx : ks_L) (i : Nat) (hs : SH[i]? = some kSt) (hi : i < 11) (hf : Mx 9 1 < 14) (hc : Mx 9 2 ≤ 14) : KV l G base 1 0 0 yX0_remember cX0_remember 2 [.ref (base + 9), .ref (base + i)] SH SH Mx Lx (fun M1 L1 => M1 = rem6 Mx i ∧ L1 = Lx) := by
  refine k_metv (by decide) (Nat.le_of_ble_eq_true rfl) (fun K hK hRm X Y => ?_)
  subst hK
  refine r_pl [(0, .ref (base + 9)), (1, .ref (base + i))] ⟨rfl, rfl, trivial⟩ ?_
  refine r_aload_n (q := 1) (i := 0) (j := 0) (x := base + 9) X rfl rfl dX0_remember_0 rfl ?_
  refine r_getf (q := 4) (i := 9) (v := .ref (base + 10)) X fk_X0_13 kh_9 rfl rfl dX0_remember_1 rfl ?_
  refine r_aload_n (q := 5) (i := 0) (j := 0) (x := base + 9) X rfl rfl dX0_remember_4 rfl ?_
  refine r_getf (q := 8) (i := 9) (v := .int (nI (Mx 9 1))) X fk_X0_19 kh_9 rfl rfl dX0_remember_5 rfl ?_
  refine r_aload_n (q := 9) (i := 0) (j := 0) (x := base + 9) X rfl rfl dX0_remember_8 rfl ?_
  refine r_getf (q := 12) (i := 9) (v := .int (nI (Mx 9 2))) X fk_X0_23 kh_9 rfl rfl dX0_remember_9 rfl ?_
  refine r_iaddR (q := 13) (x := nI (Mx 9 1)) (y := nI (Mx 9 2)) (v := nI ((Mx 9 1) + (Mx 9 2))) X (nI_add _ _) dX0_remember_12 rfl ?_
  refine r_bipush (q := 15) (v := nI 14) X kb_14 dX0_remember_13 rfl ?_
  refine r_callSi (q := 18) X (c_fmod K.2.1 G base Mx Lx (Mx 9 1 + Mx 9 2) 14 (by decide) (by omega) (by decide)) ks_RX0_26 (by decide) (by decide) ⟨Nat.zero_le _, Nat.zero_le _⟩ rfl (Nat.le_of_ble_eq_true rfl) dX0_remember_15 rfl (fun r M1 L1 hp => ?_)
  obtain ⟨e1, e2, e3⟩ := hp
  subst e1
  replace e2 := e2.symm
  subst e2
  replace e3 := e3.symm
  subst e3
  have hj : ((Mx 9 1 + Mx 9 2) % 14) < 14 := Nat.mod_lt _ (by decide)
  refine r_aald (q := 19) (i := 10) (j := (Mx 9 1 + Mx 9 2) % 14) (t := 11 + ((Mx 9 1 + Mx 9 2) % 14)) X kh_10 hj (Nat.le_of_ble_eq_true rfl) (kd10 hj) dX0_remember_18 rfl ?_
  refine r_aload_n (q := 20) (i := 1) (j := 1) (x := base + i) X rfl rfl dX0_remember_19 rfl ?_
  refine r_callVv (q := 23) X (c_copy K.2.1 G base Mx Lx (11 + ((Mx 9 1 + Mx 9 2) % 14)) (kh_acts hj) i hs (by omega)) (kh_acts hj) rfl ks_RX0_32 (by decide) (by decide) ⟨Nat.zero_le _, Nat.zero_le _⟩ rfl (Nat.le_of_ble_eq_true rfl) dX0_remember_20 rfl (fun M1 L1 hp => ?_)
  obtain ⟨e2, e3⟩ := hp
  replace e2 := e2.symm
  subst e2
  replace e3 := e3.symm
  subst e3
  refine r_aload_n (q := 24) (i := 0) (j := 0) (x := base + 9) X rfl rfl dX0_remember_23 rfl ?_
  refine r_getf (q := 27) (i := 9) (v := .int (nI (Mx 9 2))) X fk_X0_23 kh_9 rfl (kv (congrFun (sv6_o (by decide)) _)) dX0_remember_24 rfl ?_
  refine r_bipush (q := 29) (v := nI 14) X kb_14 dX0_remember_27 rfl ?_
  refine r_icmp_ge (q := 32) (tgt := 45) X (by decide) dX0_remember_29 rfl (fun c29 => ?_) (fun c29 => ?_)
  · replace c29 : 14 ≤ (Mx 9 2) := (nI_leI (by omega) (by omega)).mp c29
    refine r_aload_n (q := 46) (i := 0) (j := 0) (x := base + 9) X rfl rfl dX0_remember_45 rfl ?_
    refine r_aload_n (q := 47) (i := 0) (j := 0) (x := base + 9) X rfl rfl dX0_remember_46 rfl ?_
    refine r_getf (q := 50) (i := 9) (v := .int (nI (Mx 9 1))) X fk_X0_19 kh_9 rfl (kv (congrFun (sv6_o (by decide)) _)) dX0_remember_47 rfl ?_
    refine r_iconst (q := 51) (v := nI 1) X kc_1 dX0_remember_50 rfl ?_
    refine r_iaddR (q := 52) (x := nI (Mx 9 1)) (y := nI 1) (v := nI ((Mx 9 1) + 1)) X (nI_add _ _) dX0_remember_51 rfl ?_
    refine r_bipush (q := 54) (v := nI 14) X kb_14 dX0_remember_52 rfl ?_
    refine r_callSi (q := 57) X (c_fmod K.2.1 G base (sv6 Mx i) Lx (Mx 9 1 + 1) 14 (by decide) (by omega) (by decide)) ks_RX0_26 (by decide) (by decide) ⟨Nat.zero_le _, Nat.zero_le _⟩ rfl (Nat.le_of_ble_eq_true rfl) dX0_remember_54 rfl (fun r M1 L1 hp => ?_)
    obtain ⟨e1, e2, e3⟩ := hp
    subst e1
    replace e2 := e2.symm
    subst e2
    replace e3 := e3.symm
    subst e3
    refine r_puti (q := 60) (i := 9) (n := (Mx 9 1 + 1) % 14) X fk_X0_19 kp_X0_1 kh_9 rfl dX0_remember_57 rfl ?_
    refine r_vret X Y ?_ dX0_remember_60
    exact ⟨by unfold rem6; first | (rw [if_pos (by omega)]; done) | (rw [if_pos (by omega)]; rfl) | (rw [if_neg (by omega)]; done) | (rw [if_neg (by omega)]; rfl), rfl⟩
  · replace c29 : ¬ 14 ≤ (Mx 9 2) := fun h => c29 ((nI_leI (by omega) (by omega)).mpr h)
    refine r_aload_n (q := 33) (i := 0) (j := 0) (x := base + 9) X rfl rfl dX0_remember_32 rfl ?_
    refine r_dup (q := 34) X rfl dX0_remember_33 rfl ?_
    refine r_getf (q := 37) (i := 9) (v := .int (nI (Mx 9 2))) X fk_X0_23 kh_9 rfl (kv (congrFun (sv6_o (by decide)) _)) dX0_remember_34 rfl ?_
    refine r_iconst (q := 38) (v := nI 1) X kc_1 dX0_remember_37 rfl ?_
    refine r_iaddR (q := 39) (x := nI (Mx 9 2)) (y := nI 1) (v := nI ((Mx 9 2) + 1)) X (nI_add _ _) dX0_remember_38 rfl ?_
    refine r_puti (q := 42) (i := 9) (n := (Mx 9 2) + 1) X fk_X0_23 kp_X0_2 kh_9 rfl dX0_remember_39 rfl ?_
    refine r_goto (tgt := 60) X (by decide) dX0_remember_42 ?_
    refine r_vret X Y ?_ dX0_remember_60
    exact ⟨by unfold rem6; first | (rw [if_pos (by omega)]; done) | (rw [if_pos (by omega)]; rfl) | (rw [if_neg (by omega)]; done) | (rw [if_neg (by omega)]; rfl), rfl⟩
set_option maxHeartbeats 8000000 in
theorem c_takeBack (l : Launch) (G : ks_G) (base : Nat) (Mx : ks_M) (Lx : ks_L) (i : Nat) (hs : SH[i]? = some kSt) (hi : i < 9) (hf : Mx 9 1 < 14) (hc : Mx 9 2 ≤ 14) (h0 : 0 < Mx 9 2) : KV l G base 1 0 0 yX0_takeBack cX0_takeBack 2 [.ref (base + 9), .ref (base + i)] SH SH Mx Lx (fun M1 L1 => M1 = bk6 Mx i ∧ L1 = Lx) := by
  refine k_metv (by decide) (Nat.le_of_ble_eq_true rfl) (fun K hK hRm X Y => ?_)
  subst hK
  refine r_pl [(0, .ref (base + 9)), (1, .ref (base + i))] ⟨rfl, rfl, trivial⟩ ?_
  refine r_aload_n (q := 1) (i := 0) (j := 0) (x := base + 9) X rfl rfl dX0_takeBack_0 rfl ?_
  refine r_dup (q := 2) X rfl dX0_takeBack_1 rfl ?_
  refine r_getf (q := 5) (i := 9) (v := .int (nI (Mx 9 2))) X fk_X0_23 kh_9 rfl rfl dX0_takeBack_2 rfl ?_
  refine r_iconst (q := 6) (v := nI 1) X kc_1 dX0_takeBack_5 rfl ?_
  refine r_isubR (q := 7) (x := nI (Mx 9 2)) (y := nI 1) (v := nI ((Mx 9 2) - 1)) X (pk_sub (by omega)) dX0_takeBack_6 rfl ?_
  refine r_puti (q := 10) (i := 9) (n := (Mx 9 2) - 1) X fk_X0_23 kp_X0_2 kh_9 rfl dX0_takeBack_7 rfl ?_
  refine r_aload_n (q := 11) (i := 1) (j := 1) (x := base + i) X rfl rfl dX0_takeBack_10 rfl ?_
  refine r_aload_n (q := 12) (i := 0) (j := 0) (x := base + 9) X rfl rfl dX0_takeBack_11 rfl ?_
  refine r_getf (q := 15) (i := 9) (v := .ref (base + 10)) X fk_X0_13 kh_9 rfl rfl dX0_takeBack_12 rfl ?_
  refine r_aload_n (q := 16) (i := 0) (j := 0) (x := base + 9) X rfl rfl dX0_takeBack_15 rfl ?_
  refine r_getf (q := 19) (i := 9) (v := .int (nI (Mx 9 1))) X fk_X0_19 kh_9 rfl (kv (by simp [up2])) dX0_takeBack_16 rfl ?_
  refine r_aload_n (q := 20) (i := 0) (j := 0) (x := base + 9) X rfl rfl dX0_takeBack_19 rfl ?_
  refine r_getf (q := 23) (i := 9) (v := .int (nI (Mx 9 2 - 1))) X fk_X0_23 kh_9 rfl (kv (by simp [up2])) dX0_takeBack_20 rfl ?_
  refine r_iaddR (q := 24) (x := nI (Mx 9 1)) (y := nI (Mx 9 2 - 1)) (v := nI ((Mx 9 1) + (Mx 9 2 - 1))) X (nI_add _ _) dX0_takeBack_23 rfl ?_
  refine r_bipush (q := 26) (v := nI 14) X kb_14 dX0_takeBack_24 rfl ?_
  refine r_callSi (q := 29) X (c_fmod K.2.1 G base _ Lx (Mx 9 1 + (Mx 9 2 - 1)) 14 (by decide) (by omega) (by decide)) ks_RX0_26 (by decide) (by decide) ⟨Nat.zero_le _, Nat.zero_le _⟩ rfl (Nat.le_of_ble_eq_true rfl) dX0_takeBack_26 rfl (fun r M1 L1 hp => ?_)
  obtain ⟨e1, e2, e3⟩ := hp
  subst e1
  replace e2 := e2.symm
  subst e2
  replace e3 := e3.symm
  subst e3
  have hj : ((Mx 9 1 + (Mx 9 2 - 1)) % 14) < 14 := Nat.mod_lt _ (by decide)
  refine r_aald (q := 30) (i := 10) (j := (Mx 9 1 + (Mx 9 2 - 1)) % 14) (t := 11 + ((Mx 9 1 + (Mx 9 2 - 1)) % 14)) X kh_10 hj (Nat.le_of_ble_eq_true rfl) (kd10 hj) dX0_takeBack_29 rfl ?_
  refine r_callVv (q := 33) X (c_copy K.2.1 G base (up2 Mx 9 2 (Mx 9 2 - 1)) Lx i hs (11 + ((Mx 9 1 + (Mx 9 2 - 1)) % 14)) (kh_acts hj) (by omega)) hs rfl ks_RX0_32 (by decide) (by decide) ⟨Nat.zero_le _, Nat.zero_le _⟩ rfl (Nat.le_of_ble_eq_true rfl) dX0_takeBack_30 rfl (fun M1 L1 hp => ?_)
  obtain ⟨e2, e3⟩ := hp
  replace e2 := e2.symm
  subst e2
  replace e3 := e3.symm
  subst e3
  refine r_vret X Y ?_ dX0_takeBack_33
  refine ⟨?_, rfl⟩
  unfold bk6
  rw [show (up2 Mx 9 2 (Mx 9 2 - 1)) i = Mx i from by funext b; exact up2_o (by omega), show (up2 Mx 9 2 (Mx 9 2 - 1)) (11 + (Mx 9 1 + (Mx 9 2 - 1)) % 14) = Mx (11 + (Mx 9 1 + (Mx 9 2 - 1)) % 14) from by funext b; exact up2_o (by omega)]
def okN (M : ks_M) : Prop := M 3 3 ≤ 6 ∧ M 7 0 < 6 ∧ M 7 1 < 1000 ∧ M 7 2 < 100000 ∧ M 7 4 < 64 ∧ M 7 5 < 64 ∧ M 7 6 < 262144 ∧ M 9 1 < 14 ∧ M 9 2 ≤ 14
theorem rem6_o {M : ks_M} {i a : Nat} (h : a < 9) : rem6 M i a = M a := by
  unfold rem6
  split <;> (funext b; rw [up2_o (by omega), sv6_o (by omega)])
def act6 (M : ks_M) (t : Nat) : ks_M := sr (rem6 M 7) 7 (tk (M 6) (M 7) t)
set_option maxHeartbeats 8000000 in
theorem c_act (l : Launch) (G : ks_G) (base : Nat) (Mx : ks_M) (Lx : ks_L) (t : Nat) (ht : t < 4) (ok : okN Mx) (hc0 : t = 0 → 0 < Mx 7 0) (hc2 : t = 2 → 0 < Mx 7 1) : KI l G base 3 yX6_act cX6_act 2 .int [.ref (base + 0), .int (nI (t))] SH Mx Lx (fun rr M1 L1 => rr = nI (if t = 2 then gn (Mx 6) (Mx 7) else 0) ∧ M1 = act6 Mx t ∧ L1 = Lx) := by
  refine k_meti (by decide) (Nat.le_of_ble_eq_true rfl) (fun K hK X Y => ?_)
  subst hK
  refine r_pl [(0, .ref (base + 0)), (1, .int (nI (t)))] ⟨rfl, rfl, trivial⟩ ?_
  refine r_aload_n (q := 1) (i := 0) (j := 0) (x := base + 0) X rfl rfl dX6_act_0 rfl ?_
  refine r_getf (q := 4) (i := 0) (v := .ref (base + 9)) X fk_X6_36 kh_0 rfl rfl dX6_act_1 rfl ?_
  refine r_aload_n (q := 5) (i := 0) (j := 0) (x := base + 0) X rfl rfl dX6_act_4 rfl ?_
  refine r_getf (q := 8) (i := 0) (v := .ref (base + 7)) X fk_X6_26 kh_0 rfl rfl dX6_act_5 rfl ?_
  refine r_callVv (q := 11) X (c_remember K.2.1 G base Mx Lx 7 kh_7 (by decide) ok.2.2.2.2.2.2.2.1 ok.2.2.2.2.2.2.2.2) kh_9 rfl ks_RX6_142 (by decide) (by decide) ⟨Nat.zero_le _, Nat.zero_le _⟩ rfl (Nat.le_of_ble_eq_true rfl) dX6_act_8 rfl (fun M1 L1 hp => ?_)
  obtain ⟨e2, e3⟩ := hp
  replace e2 := e2.symm
  subst e2
  replace e3 := e3.symm
  subst e3
  refine r_aload_n (q := 12) (i := 0) (j := 0) (x := base + 0) X rfl rfl dX6_act_11 rfl ?_
  refine r_getf (q := 15) (i := 0) (v := .ref (base + 7)) X fk_X6_26 kh_0 rfl rfl dX6_act_12 rfl ?_
  refine r_aload_n (q := 16) (i := 0) (j := 0) (x := base + 0) X rfl rfl dX6_act_15 rfl ?_
  refine r_getf (q := 19) (i := 0) (v := .ref (base + 3)) X fk_X6_19 kh_0 rfl rfl dX6_act_16 rfl ?_
  refine r_iload_n (q := 20) (i := 1) (j := 1) (x := nI (t)) X rfl rfl dX6_act_19 rfl ?_
  refine r_callVi (q := 23) X (c_take K.2.1 G base (rem6 Mx 7) Lx 7 kh_7 t ht (by rw [rem6_o (by decide)]; exact ok.2.1) (by rw [rem6_o (by decide)]; have := ok.2.2.2.1; omega) (by rw [rem6_o (by decide)]; have := ok.2.2.2.2.1; omega) (by rw [rem6_o (by decide)]; have := ok.2.2.2.2.2.1; omega) (by rw [rem6_o (by decide)]; have := ok.2.2.2.2.2.2.1; omega) (by rw [rem6_o (by decide)]; exact hc0) (by rw [rem6_o (by decide)]; exact hc2)) kh_7 rfl ks_RX6_149 (by decide) (by decide) ⟨Nat.zero_le _, Nat.zero_le _⟩ rfl (Nat.le_of_ble_eq_true rfl) dX6_act_20 rfl (fun r M1 L1 hp => ?_)
  rw [show rem6 Mx 7 6 = Mx 6 from rem6_o (by decide), show rem6 Mx 7 7 = Mx 7 from rem6_o (by decide)] at hp
  obtain ⟨e1, e2, e3⟩ := hp
  subst e1
  replace e2 := e2.symm
  subst e2
  replace e3 := e3.symm
  subst e3
  refine r_iret X Y ?_ dX6_act_23
  exact ⟨rfl, rfl, rfl⟩
end
section
/-! THE CLASS: walk, look, pause, lamp, key, undo, slots, seen, seed -/
theorem ks_ho {ds : List (Nat × Nat)} {f : Nat} (h : (List.range ds.length).all (fun j => decide (j = f) || decide ((ds.getD j (0, 0)).1 ≠ 1)) = true) : ∀ j u, j ≠ f → ds[j]? = some u → u.1 ≠ 1 := by
  intro j u hj hu
  have h1 := (List.all_eq_true.mp h) j (List.mem_range.mpr (List.getElem?_eq_some_iff.mp hu).1)
  rw [List.getD_eq_getElem?_getD, hu, Option.getD_some] at h1
  simp only [Bool.or_eq_true, decide_eq_true_eq] at h1
  exact h1.resolve_left hj
theorem cn_2 (n : Nat) (x : Nat → Nat) (t : Nat) : cn n x t < 2 := by unfold cn; (repeat' split) <;> decide
theorem act6_7 (M : ks_M) (t : Nat) : act6 M t 7 = tk (M 6) (M 7) t := sr_s _ _ _
theorem cn_0 {n : Nat} {x : Nat → Nat} (h : cn n x 0 = 1) : 0 < x 0 := by
  unfold cn at h; rw [if_pos rfl] at h; split at h <;> first | assumption | cases h
theorem cn_look {n : Nat} {x : Nat → Nat} (h : cn n x 2 = 1) : 0 < x 1 := by
  unfold cn at h; rw [if_neg (by decide), if_neg (by decide), if_pos rfl] at h; split at h
  · next h1 => exact h1.2
  · cases h
set_option maxHeartbeats 8000000 in
theorem c6_walk (l : Launch) (G : ks_G) (base : Nat) (Mx : ks_M) (Lx : ks_L) (x : Int32) (ok : okN Mx) : KI l G base 4 yX6_walk cX6_walk 2 .int [.ref (base + 0), .int (x)] SH Mx Lx (fun rr M1 L1 => (rr = (-2) ∧ (∀ t, t < 2 → x ≠ nI t) ∧ M1 = Mx ∧ L1 = Lx) ∨ (∃ t, t < 2 ∧ x = nI t ∧ ((cn (Mx 3 3) (Mx 7) t = 0 ∧ rr = (-3) ∧ M1 = Mx) ∨ (cn (Mx 3 3) (Mx 7) t = 1 ∧ rr = nI (tk (Mx 6) (Mx 7) t 0) ∧ M1 = act6 Mx t)) ∧ L1 = Lx)) := by
  refine k_meti (by decide) (Nat.le_of_ble_eq_true rfl) (fun K hK X Y => ?_)
  subst hK
  refine r_pl [(0, .ref (base + 0)), (1, .int (x))] ⟨rfl, rfl, trivial⟩ ?_
  refine r_iload_n (q := 1) (i := 1) (j := 1) (x := x) X rfl rfl dX6_walk_0 rfl ?_
  refine r_if_eq (q := 4) (tgt := 12) X (by decide) dX6_walk_1 rfl (fun c1 => ?_) (fun c1 => ?_)
  · skip
    obtain rfl : x = nI 0 := c1.trans nI_0.symm
    refine r_aload_n (q := 13) (i := 0) (j := 0) (x := base + 0) X rfl rfl dX6_walk_12 rfl ?_
    refine r_getf (q := 16) (i := 0) (v := .ref (base + 7)) X fk_X6_26 kh_0 rfl rfl dX6_walk_13 rfl ?_
    refine r_aload_n (q := 17) (i := 0) (j := 0) (x := base + 0) X rfl rfl dX6_walk_16 rfl ?_
    refine r_getf (q := 20) (i := 0) (v := .ref (base + 3)) X fk_X6_19 kh_0 rfl rfl dX6_walk_17 rfl ?_
    refine r_iload_n (q := 21) (i := 1) (j := 1) (x := nI (0)) X rfl rfl dX6_walk_20 rfl ?_
    refine r_callVi (q := 24) X (c_can K.2.1 G base Mx Lx 7 kh_7 0 (by decide) (by have := ok.2.1; omega) (by have := ok.2.2.1; omega) (by have := ok.1; omega)) kh_7 rfl ks_RX6_135 (by decide) (by decide) ⟨Nat.zero_le _, Nat.zero_le _⟩ rfl (Nat.le_of_ble_eq_true rfl) dX6_walk_21 rfl (fun r M1 L1 hp => ?_)
    obtain ⟨e1, e2, e3⟩ := hp
    subst e1
    replace e2 := e2.symm
    subst e2
    replace e3 := e3.symm
    subst e3
    have hcn := cn_2 (Mx 3 3) (Mx 7) 0
    refine r_if_ne (q := 27) (tgt := 30) X (by decide) dX6_walk_24 rfl (fun c24 => ?_) (fun c24 => ?_)
    · replace c24 : ¬ (cn (Mx 3 3) (Mx 7) 0) = 0 := fun h => c24 ((kI_eq0 (by omega)).mpr h)
      refine r_aload_n (q := 31) (i := 0) (j := 0) (x := base + 0) X rfl rfl dX6_walk_30 rfl ?_
      refine r_iload_n (q := 32) (i := 1) (j := 1) (x := nI (0)) X rfl rfl dX6_walk_31 rfl ?_
      refine r_callVi (q := 35) X (c_act K.2.1 G base Mx Lx 0 (by decide) ok (fun _ => cn_0 (n := Mx 3 3) (by omega)) (fun h => absurd h (by decide))) kh_0 rfl ks_RX6_139 (by decide) (by decide) ⟨Nat.zero_le _, Nat.zero_le _⟩ rfl (Nat.le_of_ble_eq_true rfl) dX6_walk_32 rfl (fun r M1 L1 hp => ?_)
      obtain ⟨e1, e2, e3⟩ := hp
      subst e1
      replace e2 := e2.symm
      subst e2
      replace e3 := e3.symm
      subst e3
      refine r_pop (q := 36) X rfl dX6_walk_35 rfl ?_
      refine r_aload_n (q := 37) (i := 0) (j := 0) (x := base + 0) X rfl rfl dX6_walk_36 rfl ?_
      refine r_getf (q := 40) (i := 0) (v := .ref (base + 7)) X fk_X6_26 kh_0 rfl rfl dX6_walk_37 rfl ?_
      refine r_getf (q := 43) (i := 7) (v := .int (nI (tk (Mx 6) (Mx 7) 0 0))) X fk_X6_97 kh_7 rfl (kv (congrFun (act6_7 Mx _) 0)) dX6_walk_40 rfl ?_
      refine r_iret X Y ?_ dX6_walk_43
      exact Or.inr ⟨0, by decide, rfl, Or.inr ⟨by omega, rfl, rfl⟩, rfl⟩
    · replace c24 : (cn (Mx 3 3) (Mx 7) 0) = 0 := (kI_eq0 (by omega)).mp c24
      refine r_bipush (q := 29) (v := (-3)) X kb_m3 dX6_walk_27 rfl ?_
      refine r_iret X Y ?_ dX6_walk_29
      exact Or.inr ⟨0, by decide, rfl, Or.inl ⟨by omega, rfl, rfl⟩, rfl⟩
  · skip
    refine r_iload_n (q := 5) (i := 1) (j := 1) (x := x) X rfl rfl dX6_walk_4 rfl ?_
    refine r_iconst (q := 6) (v := nI 1) X kc_1 dX6_walk_5 rfl ?_
    refine r_icmp_eq (q := 9) (tgt := 12) X (by decide) dX6_walk_6 rfl (fun c6 => ?_) (fun c6 => ?_)
    · skip
      subst c6
      refine r_aload_n (q := 13) (i := 0) (j := 0) (x := base + 0) X rfl rfl dX6_walk_12 rfl ?_
      refine r_getf (q := 16) (i := 0) (v := .ref (base + 7)) X fk_X6_26 kh_0 rfl rfl dX6_walk_13 rfl ?_
      refine r_aload_n (q := 17) (i := 0) (j := 0) (x := base + 0) X rfl rfl dX6_walk_16 rfl ?_
      refine r_getf (q := 20) (i := 0) (v := .ref (base + 3)) X fk_X6_19 kh_0 rfl rfl dX6_walk_17 rfl ?_
      refine r_iload_n (q := 21) (i := 1) (j := 1) (x := nI (1)) X rfl rfl dX6_walk_20 rfl ?_
      refine r_callVi (q := 24) X (c_can K.2.1 G base Mx Lx 7 kh_7 1 (by decide) (by have := ok.2.1; omega) (by have := ok.2.2.1; omega) (by have := ok.1; omega)) kh_7 rfl ks_RX6_135 (by decide) (by decide) ⟨Nat.zero_le _, Nat.zero_le _⟩ rfl (Nat.le_of_ble_eq_true rfl) dX6_walk_21 rfl (fun r M1 L1 hp => ?_)
      obtain ⟨e1, e2, e3⟩ := hp
      subst e1
      replace e2 := e2.symm
      subst e2
      replace e3 := e3.symm
      subst e3
      have hcn := cn_2 (Mx 3 3) (Mx 7) 1
      refine r_if_ne (q := 27) (tgt := 30) X (by decide) dX6_walk_24 rfl (fun c24 => ?_) (fun c24 => ?_)
      · replace c24 : ¬ (cn (Mx 3 3) (Mx 7) 1) = 0 := fun h => c24 ((kI_eq0 (by omega)).mpr h)
        refine r_aload_n (q := 31) (i := 0) (j := 0) (x := base + 0) X rfl rfl dX6_walk_30 rfl ?_
        refine r_iload_n (q := 32) (i := 1) (j := 1) (x := nI (1)) X rfl rfl dX6_walk_31 rfl ?_
        refine r_callVi (q := 35) X (c_act K.2.1 G base Mx Lx 1 (by decide) ok (fun h => absurd h (by decide)) (fun h => absurd h (by decide))) kh_0 rfl ks_RX6_139 (by decide) (by decide) ⟨Nat.zero_le _, Nat.zero_le _⟩ rfl (Nat.le_of_ble_eq_true rfl) dX6_walk_32 rfl (fun r M1 L1 hp => ?_)
        obtain ⟨e1, e2, e3⟩ := hp
        subst e1
        replace e2 := e2.symm
        subst e2
        replace e3 := e3.symm
        subst e3
        refine r_pop (q := 36) X rfl dX6_walk_35 rfl ?_
        refine r_aload_n (q := 37) (i := 0) (j := 0) (x := base + 0) X rfl rfl dX6_walk_36 rfl ?_
        refine r_getf (q := 40) (i := 0) (v := .ref (base + 7)) X fk_X6_26 kh_0 rfl rfl dX6_walk_37 rfl ?_
        refine r_getf (q := 43) (i := 7) (v := .int (nI (tk (Mx 6) (Mx 7) 1 0))) X fk_X6_97 kh_7 rfl (kv (congrFun (act6_7 Mx _) 0)) dX6_walk_40 rfl ?_
        refine r_iret X Y ?_ dX6_walk_43
        exact Or.inr ⟨1, by decide, rfl, Or.inr ⟨by omega, rfl, rfl⟩, rfl⟩
      · replace c24 : (cn (Mx 3 3) (Mx 7) 1) = 0 := (kI_eq0 (by omega)).mp c24
        refine r_bipush (q := 29) (v := (-3)) X kb_m3 dX6_walk_27 rfl ?_
        refine r_iret X Y ?_ dX6_walk_29
        exact Or.inr ⟨1, by decide, rfl, Or.inl ⟨by omega, rfl, rfl⟩, rfl⟩
    · skip
      refine r_bipush (q := 11) (v := (-2)) X kb_m2 dX6_walk_9 rfl ?_
      refine r_iret X Y ?_ dX6_walk_11
      exact Or.inl ⟨rfl, fun t ht h => by rcases (show t = 0 ∨ t = 1 by omega) with rfl | rfl; exact c1 (h.trans nI_0); exact c6 h, rfl, rfl⟩
set_option maxHeartbeats 8000000 in
theorem c6_look (l : Launch) (G : ks_G) (base : Nat) (Mx : ks_M) (Lx : ks_L) (ok : okN Mx) : KI l G base 4 yX6_look cX6_look 1 .int [.ref (base + 0)] SH Mx Lx (fun rr M1 L1 => ((cn (Mx 3 3) (Mx 7) 2 = 0 ∧ rr = (-3) ∧ M1 = Mx) ∨ (cn (Mx 3 3) (Mx 7) 2 = 1 ∧ rr = nI (gn (Mx 6) (Mx 7)) ∧ M1 = act6 Mx 2)) ∧ L1 = Lx) := by
  refine k_meti (by decide) (Nat.le_of_ble_eq_true rfl) (fun K hK X Y => ?_)
  subst hK
  refine r_pl [(0, .ref (base + 0))] ⟨rfl, trivial⟩ ?_
  refine r_aload_n (q := 1) (i := 0) (j := 0) (x := base + 0) X rfl rfl dX6_look_0 rfl ?_
  refine r_getf (q := 4) (i := 0) (v := .ref (base + 7)) X fk_X6_26 kh_0 rfl rfl dX6_look_1 rfl ?_
  refine r_aload_n (q := 5) (i := 0) (j := 0) (x := base + 0) X rfl rfl dX6_look_4 rfl ?_
  refine r_getf (q := 8) (i := 0) (v := .ref (base + 3)) X fk_X6_19 kh_0 rfl rfl dX6_look_5 rfl ?_
  refine r_iconst (q := 9) (v := nI 2) X kc_2 dX6_look_8 rfl ?_
  refine r_callVi (q := 12) X (c_can K.2.1 G base Mx Lx 7 kh_7 2 (by decide) (by have := ok.2.1; omega) (by have := ok.2.2.1; omega) (by have := ok.1; omega)) kh_7 rfl ks_RX6_135 (by decide) (by decide) ⟨Nat.zero_le _, Nat.zero_le _⟩ rfl (Nat.le_of_ble_eq_true rfl) dX6_look_9 rfl (fun r M1 L1 hp => ?_)
  obtain ⟨e1, e2, e3⟩ := hp
  subst e1
  replace e2 := e2.symm
  subst e2
  replace e3 := e3.symm
  subst e3
  have hcn := cn_2 (Mx 3 3) (Mx 7) 2
  refine r_if_ne (q := 15) (tgt := 18) X (by decide) dX6_look_12 rfl (fun c12 => ?_) (fun c12 => ?_)
  · replace c12 : ¬ (cn (Mx 3 3) (Mx 7) 2) = 0 := fun h => c12 ((kI_eq0 (by omega)).mpr h)
    refine r_aload_n (q := 19) (i := 0) (j := 0) (x := base + 0) X rfl rfl dX6_look_18 rfl ?_
    refine r_iconst (q := 20) (v := nI 2) X kc_2 dX6_look_19 rfl ?_
    refine r_callVi (q := 23) X (c_act K.2.1 G base Mx Lx 2 (by decide) ok (fun h => absurd h (by decide)) (fun _ => cn_look (n := Mx 3 3) (by omega))) kh_0 rfl ks_RX6_139 (by decide) (by decide) ⟨Nat.zero_le _, Nat.zero_le _⟩ rfl (Nat.le_of_ble_eq_true rfl) dX6_look_20 rfl (fun r M1 L1 hp => ?_)
    obtain ⟨e1, e2, e3⟩ := hp
    subst e1
    replace e2 := e2.symm
    subst e2
    replace e3 := e3.symm
    subst e3
    refine r_iret X Y ?_ dX6_look_23
    exact ⟨Or.inr ⟨by omega, rfl, rfl⟩, rfl⟩
  · replace c12 : (cn (Mx 3 3) (Mx 7) 2) = 0 := (kI_eq0 (by omega)).mp c12
    refine r_bipush (q := 17) (v := (-3)) X kb_m3 dX6_look_15 rfl ?_
    refine r_iret X Y ?_ dX6_look_17
    exact ⟨Or.inl ⟨by omega, rfl, rfl⟩, rfl⟩
set_option maxHeartbeats 8000000 in
theorem c6_pause (l : Launch) (G : ks_G) (base : Nat) (Mx : ks_M) (Lx : ks_L) (ok : okN Mx) : KI l G base 4 yX6_pause cX6_pause 1 .int [.ref (base + 0)] SH Mx Lx (fun rr M1 L1 => rr = nI (tk (Mx 6) (Mx 7) 3 2) ∧ M1 = act6 Mx 3 ∧ L1 = Lx) := by
  refine k_meti (by decide) (Nat.le_of_ble_eq_true rfl) (fun K hK X Y => ?_)
  subst hK
  refine r_pl [(0, .ref (base + 0))] ⟨rfl, trivial⟩ ?_
  refine r_aload_n (q := 1) (i := 0) (j := 0) (x := base + 0) X rfl rfl dX6_pause_0 rfl ?_
  refine r_iconst (q := 2) (v := nI 3) X kc_3 dX6_pause_1 rfl ?_
  refine r_callVi (q := 5) X (c_act K.2.1 G base Mx Lx 3 (by decide) ok (fun h => absurd h (by decide)) (fun h => absurd h (by decide))) kh_0 rfl ks_RX6_139 (by decide) (by decide) ⟨Nat.zero_le _, Nat.zero_le _⟩ rfl (Nat.le_of_ble_eq_true rfl) dX6_pause_2 rfl (fun r M1 L1 hp => ?_)
  obtain ⟨e1, e2, e3⟩ := hp
  subst e1
  replace e2 := e2.symm
  subst e2
  replace e3 := e3.symm
  subst e3
  refine r_pop (q := 6) X rfl dX6_pause_5 rfl ?_
  refine r_aload_n (q := 7) (i := 0) (j := 0) (x := base + 0) X rfl rfl dX6_pause_6 rfl ?_
  refine r_getf (q := 10) (i := 0) (v := .ref (base + 7)) X fk_X6_26 kh_0 rfl rfl dX6_pause_7 rfl ?_
  refine r_getf (q := 13) (i := 7) (v := .int (nI (tk (Mx 6) (Mx 7) 3 2))) X fk_X6_103 kh_7 rfl (kv (congrFun (act6_7 Mx _) 2)) dX6_pause_10 rfl ?_
  refine r_iret X Y ?_ dX6_pause_13
  exact ⟨rfl, rfl, rfl⟩
theorem kx64 {a k : Nat} (ha : a < 64) (hk : k < 6) : a ^^^ 1 <<< k < 64 := by
  have h1 : 1 <<< k < 2 ^ 6 := by rw [Nat.shiftLeft_eq, Nat.one_mul]; exact Nat.pow_lt_pow_right (by decide) hk
  exact Nat.xor_lt_two_pow (n := 6) ha h1
theorem ko64 {a k : Nat} (ha : a < 4) (hk : k < 2) : a ||| 1 <<< k < 4 := by
  have h1 : 1 <<< k < 2 ^ 2 := by rw [Nat.shiftLeft_eq, Nat.one_mul]; exact Nat.pow_lt_pow_right (by decide) hk
  exact Nat.or_lt_two_pow (n := 2) ha h1
set_option maxHeartbeats 8000000 in
theorem c6_lamp (l : Launch) (G : ks_G) (base : Nat) (Mx : ks_M) (Lx : ks_L) (x : Int32) (hn : Mx 3 3 ≤ 6) (ok : okN Mx) : KI l G base 2 yX6_lamp cX6_lamp 2 .int [.ref (base + 0), .int (x)] SH Mx Lx (fun rr M1 L1 => ((rr = (-1) ∧ (∀ k, k < Mx 3 3 → x ≠ nI k) ∧ M1 = Mx) ∨ (∃ k, k < Mx 3 3 ∧ x = nI k ∧ rr = nI ((Mx 7 4 ^^^ 1 <<< k) >>> k &&& 1) ∧ M1 = up2 (rem6 Mx 7) 7 4 (Mx 7 4 ^^^ 1 <<< k))) ∧ L1 = Lx) := by
  refine k_meti (by decide) (Nat.le_of_ble_eq_true rfl) (fun K hK X Y => ?_)
  subst hK
  refine r_pl [(0, .ref (base + 0)), (1, .int (x))] ⟨rfl, rfl, trivial⟩ ?_
  refine r_aload_n (q := 1) (i := 0) (j := 0) (x := base + 0) X rfl rfl dX6_lamp_0 rfl ?_
  refine r_getf (q := 4) (i := 0) (v := .ref (base + 3)) X fk_X6_19 kh_0 rfl rfl dX6_lamp_1 rfl ?_
  refine r_iload_n (q := 5) (i := 1) (j := 1) (x := x) X rfl rfl dX6_lamp_4 rfl ?_
  refine r_callVi (q := 8) X (c_has6 K.2.1 G base Mx Lx x hn) kh_3 rfl ks_RX6_116 (by decide) (by decide) ⟨Nat.zero_le _, Nat.zero_le _⟩ rfl (Nat.le_of_ble_eq_true rfl) dX6_lamp_5 rfl (fun r M1 L1 hp => ?_)
  rcases hp with ⟨k, e1, hkn, hxe, hp2⟩ | ⟨e1, hno, hp2⟩
  · subst e1
    obtain ⟨e2, e3⟩ := hp2
    replace e2 := e2.symm
    subst e2
    replace e3 := e3.symm
    subst e3
    subst hxe
    refine r_if_ne (q := 11) (tgt := 13) X (by decide) dX6_lamp_8 rfl (fun _ => ?_) (fun c => absurd c (by decide))
    refine r_aload_n (q := 14) (i := 0) (j := 0) (x := base + 0) X rfl rfl dX6_lamp_13 rfl ?_
    refine r_getf (q := 17) (i := 0) (v := .ref (base + 9)) X fk_X6_36 kh_0 rfl rfl dX6_lamp_14 rfl ?_
    refine r_aload_n (q := 18) (i := 0) (j := 0) (x := base + 0) X rfl rfl dX6_lamp_17 rfl ?_
    refine r_getf (q := 21) (i := 0) (v := .ref (base + 7)) X fk_X6_26 kh_0 rfl rfl dX6_lamp_18 rfl ?_
    refine r_callVv (q := 24) X (c_remember K.2.1 G base Mx Lx 7 kh_7 (by decide) ok.2.2.2.2.2.2.2.1 ok.2.2.2.2.2.2.2.2) kh_9 rfl ks_RX6_142 (by decide) (by decide) ⟨Nat.zero_le _, Nat.zero_le _⟩ rfl (Nat.le_of_ble_eq_true rfl) dX6_lamp_21 rfl (fun M1 L1 hp => ?_)
    obtain ⟨e2, e3⟩ := hp
    replace e2 := e2.symm
    subst e2
    replace e3 := e3.symm
    subst e3
    refine r_aload_n (q := 25) (i := 0) (j := 0) (x := base + 0) X rfl rfl dX6_lamp_24 rfl ?_
    refine r_getf (q := 28) (i := 0) (v := .ref (base + 7)) X fk_X6_26 kh_0 rfl rfl dX6_lamp_25 rfl ?_
    refine r_dup (q := 29) X rfl dX6_lamp_28 rfl ?_
    refine r_getf (q := 32) (i := 7) (v := .int (nI (Mx 7 4))) X fk_X6_109 kh_7 rfl (kv (congrFun (rem6_o (by decide)) _)) dX6_lamp_29 rfl ?_
    refine r_iconst (q := 33) (v := nI 1) X kc_1 dX6_lamp_32 rfl ?_
    refine r_iload_n (q := 34) (i := 1) (j := 1) (x := nI (k)) X rfl rfl dX6_lamp_33 rfl ?_
    refine r_ishlR (q := 35) (x := nI 1) (y := nI (k)) (v := nI (1 <<< k)) X (k_shl (by omega)) dX6_lamp_34 rfl ?_
    refine r_ixorR (q := 36) (x := nI (Mx 7 4)) (y := nI (1 <<< k)) (v := nI ((Mx 7 4) ^^^ (1 <<< k))) X (fb_xorI _ _) dX6_lamp_35 rfl ?_
    have hx6 : Mx 7 4 ^^^ 1 <<< k < 64 := kx64 (by have := ok.2.2.2.2.1; have := ok.2.2.2.2.2.1; omega) (by omega)
    refine r_puti (q := 39) (i := 7) (n := (Mx 7 4) ^^^ (1 <<< k)) X fk_X6_109 kp_X3_4 kh_7 rfl dX6_lamp_36 rfl ?_
    refine r_aload_n (q := 40) (i := 0) (j := 0) (x := base + 0) X rfl rfl dX6_lamp_39 rfl ?_
    refine r_getf (q := 43) (i := 0) (v := .ref (base + 7)) X fk_X6_26 kh_0 rfl rfl dX6_lamp_40 rfl ?_
    refine r_getf (q := 46) (i := 7) (v := .int (nI (Mx 7 4 ^^^ 1 <<< k))) X fk_X6_109 kh_7 rfl (kv (by simp [up2])) dX6_lamp_43 rfl ?_
    refine r_iload_n (q := 47) (i := 1) (j := 1) (x := nI (k)) X rfl rfl dX6_lamp_46 rfl ?_
    refine r_ishrR (q := 48) (x := nI (Mx 7 4 ^^^ 1 <<< k)) (y := nI (k)) (v := nI ((Mx 7 4 ^^^ 1 <<< k) >>> k)) X (k_shr (by omega) (by omega)) dX6_lamp_47 rfl ?_
    refine r_iconst (q := 49) (v := nI 1) X kc_1 dX6_lamp_48 rfl ?_
    refine r_iandR (q := 50) (x := nI ((Mx 7 4 ^^^ 1 <<< k) >>> k)) (y := nI 1) (v := nI (((Mx 7 4 ^^^ 1 <<< k) >>> k) &&& 1)) X (fa_and _ _) dX6_lamp_49 rfl ?_
    refine r_iret X Y ?_ dX6_lamp_50
    exact ⟨Or.inr ⟨k, hkn, rfl, rfl, rfl⟩, rfl⟩
  · subst e1
    obtain ⟨e2, e3⟩ := hp2
    replace e2 := e2.symm
    subst e2
    replace e3 := e3.symm
    subst e3
    refine r_if_ne (q := 11) (tgt := 13) X (by decide) dX6_lamp_8 rfl (fun c => absurd c (by decide)) (fun _ => ?_)
    refine r_iconst (q := 12) (v := (-1)) X kc_m1 dX6_lamp_11 rfl ?_
    refine r_iret X Y ?_ dX6_lamp_12
    exact ⟨Or.inl ⟨rfl, hno, rfl⟩, rfl⟩
set_option maxHeartbeats 8000000 in
theorem c6_key (l : Launch) (G : ks_G) (base : Nat) (Mx : ks_M) (Lx : ks_L) (x : Int32) (hn : Mx 3 3 ≤ 6) (ok : okN Mx) : KI l G base 2 yX6_key cX6_key 2 .int [.ref (base + 0), .int (x)] SH Mx Lx (fun rr M1 L1 => ((rr = (-1) ∧ (∀ k, k < Mx 3 3 → x ≠ nI k) ∧ M1 = Mx) ∨ (∃ k, k < Mx 3 3 ∧ x = nI k ∧ rr = nI ((Mx 7 5 ^^^ 1 <<< k) >>> k &&& 1) ∧ M1 = up2 (rem6 Mx 7) 7 5 (Mx 7 5 ^^^ 1 <<< k))) ∧ L1 = Lx) := by
  refine k_meti (by decide) (Nat.le_of_ble_eq_true rfl) (fun K hK X Y => ?_)
  subst hK
  refine r_pl [(0, .ref (base + 0)), (1, .int (x))] ⟨rfl, rfl, trivial⟩ ?_
  refine r_aload_n (q := 1) (i := 0) (j := 0) (x := base + 0) X rfl rfl dX6_key_0 rfl ?_
  refine r_getf (q := 4) (i := 0) (v := .ref (base + 3)) X fk_X6_19 kh_0 rfl rfl dX6_key_1 rfl ?_
  refine r_iload_n (q := 5) (i := 1) (j := 1) (x := x) X rfl rfl dX6_key_4 rfl ?_
  refine r_callVi (q := 8) X (c_has6 K.2.1 G base Mx Lx x hn) kh_3 rfl ks_RX6_116 (by decide) (by decide) ⟨Nat.zero_le _, Nat.zero_le _⟩ rfl (Nat.le_of_ble_eq_true rfl) dX6_key_5 rfl (fun r M1 L1 hp => ?_)
  rcases hp with ⟨k, e1, hkn, hxe, hp2⟩ | ⟨e1, hno, hp2⟩
  · subst e1
    obtain ⟨e2, e3⟩ := hp2
    replace e2 := e2.symm
    subst e2
    replace e3 := e3.symm
    subst e3
    subst hxe
    refine r_if_ne (q := 11) (tgt := 13) X (by decide) dX6_key_8 rfl (fun _ => ?_) (fun c => absurd c (by decide))
    refine r_aload_n (q := 14) (i := 0) (j := 0) (x := base + 0) X rfl rfl dX6_key_13 rfl ?_
    refine r_getf (q := 17) (i := 0) (v := .ref (base + 9)) X fk_X6_36 kh_0 rfl rfl dX6_key_14 rfl ?_
    refine r_aload_n (q := 18) (i := 0) (j := 0) (x := base + 0) X rfl rfl dX6_key_17 rfl ?_
    refine r_getf (q := 21) (i := 0) (v := .ref (base + 7)) X fk_X6_26 kh_0 rfl rfl dX6_key_18 rfl ?_
    refine r_callVv (q := 24) X (c_remember K.2.1 G base Mx Lx 7 kh_7 (by decide) ok.2.2.2.2.2.2.2.1 ok.2.2.2.2.2.2.2.2) kh_9 rfl ks_RX6_142 (by decide) (by decide) ⟨Nat.zero_le _, Nat.zero_le _⟩ rfl (Nat.le_of_ble_eq_true rfl) dX6_key_21 rfl (fun M1 L1 hp => ?_)
    obtain ⟨e2, e3⟩ := hp
    replace e2 := e2.symm
    subst e2
    replace e3 := e3.symm
    subst e3
    refine r_aload_n (q := 25) (i := 0) (j := 0) (x := base + 0) X rfl rfl dX6_key_24 rfl ?_
    refine r_getf (q := 28) (i := 0) (v := .ref (base + 7)) X fk_X6_26 kh_0 rfl rfl dX6_key_25 rfl ?_
    refine r_dup (q := 29) X rfl dX6_key_28 rfl ?_
    refine r_getf (q := 32) (i := 7) (v := .int (nI (Mx 7 5))) X fk_X6_112 kh_7 rfl (kv (congrFun (rem6_o (by decide)) _)) dX6_key_29 rfl ?_
    refine r_iconst (q := 33) (v := nI 1) X kc_1 dX6_key_32 rfl ?_
    refine r_iload_n (q := 34) (i := 1) (j := 1) (x := nI (k)) X rfl rfl dX6_key_33 rfl ?_
    refine r_ishlR (q := 35) (x := nI 1) (y := nI (k)) (v := nI (1 <<< k)) X (k_shl (by omega)) dX6_key_34 rfl ?_
    refine r_ixorR (q := 36) (x := nI (Mx 7 5)) (y := nI (1 <<< k)) (v := nI ((Mx 7 5) ^^^ (1 <<< k))) X (fb_xorI _ _) dX6_key_35 rfl ?_
    have hx6 : Mx 7 5 ^^^ 1 <<< k < 64 := kx64 (by have := ok.2.2.2.2.1; have := ok.2.2.2.2.2.1; omega) (by omega)
    refine r_puti (q := 39) (i := 7) (n := (Mx 7 5) ^^^ (1 <<< k)) X fk_X6_112 kp_X3_5 kh_7 rfl dX6_key_36 rfl ?_
    refine r_aload_n (q := 40) (i := 0) (j := 0) (x := base + 0) X rfl rfl dX6_key_39 rfl ?_
    refine r_getf (q := 43) (i := 0) (v := .ref (base + 7)) X fk_X6_26 kh_0 rfl rfl dX6_key_40 rfl ?_
    refine r_getf (q := 46) (i := 7) (v := .int (nI (Mx 7 5 ^^^ 1 <<< k))) X fk_X6_112 kh_7 rfl (kv (by simp [up2])) dX6_key_43 rfl ?_
    refine r_iload_n (q := 47) (i := 1) (j := 1) (x := nI (k)) X rfl rfl dX6_key_46 rfl ?_
    refine r_ishrR (q := 48) (x := nI (Mx 7 5 ^^^ 1 <<< k)) (y := nI (k)) (v := nI ((Mx 7 5 ^^^ 1 <<< k) >>> k)) X (k_shr (by omega) (by omega)) dX6_key_47 rfl ?_
    refine r_iconst (q := 49) (v := nI 1) X kc_1 dX6_key_48 rfl ?_
    refine r_iandR (q := 50) (x := nI ((Mx 7 5 ^^^ 1 <<< k) >>> k)) (y := nI 1) (v := nI (((Mx 7 5 ^^^ 1 <<< k) >>> k) &&& 1)) X (fa_and _ _) dX6_key_49 rfl ?_
    refine r_iret X Y ?_ dX6_key_50
    exact ⟨Or.inr ⟨k, hkn, rfl, rfl, rfl⟩, rfl⟩
  · subst e1
    obtain ⟨e2, e3⟩ := hp2
    replace e2 := e2.symm
    subst e2
    replace e3 := e3.symm
    subst e3
    refine r_if_ne (q := 11) (tgt := 13) X (by decide) dX6_key_8 rfl (fun c => absurd c (by decide)) (fun _ => ?_)
    refine r_iconst (q := 12) (v := (-1)) X kc_m1 dX6_key_11 rfl ?_
    refine r_iret X Y ?_ dX6_key_12
    exact ⟨Or.inl ⟨rfl, hno, rfl⟩, rfl⟩
set_option maxHeartbeats 8000000 in
theorem c6_undo (l : Launch) (G : ks_G) (base : Nat) (Mx : ks_M) (Lx : ks_L) (ok : okN Mx) : KI l G base 2 yX6_undo cX6_undo 1 .int [.ref (base + 0)] SH Mx Lx (fun rr M1 L1 => ((Mx 9 2 = 0 ∧ rr = (-3) ∧ M1 = Mx) ∨ (0 < Mx 9 2 ∧ rr = nI (Mx 9 2 - 1) ∧ M1 = bk6 Mx 7)) ∧ L1 = Lx) := by
  refine k_meti (by decide) (Nat.le_of_ble_eq_true rfl) (fun K hK X Y => ?_)
  subst hK
  refine r_pl [(0, .ref (base + 0))] ⟨rfl, trivial⟩ ?_
  refine r_aload_n (q := 1) (i := 0) (j := 0) (x := base + 0) X rfl rfl dX6_undo_0 rfl ?_
  refine r_getf (q := 4) (i := 0) (v := .ref (base + 9)) X fk_X6_36 kh_0 rfl rfl dX6_undo_1 rfl ?_
  refine r_getf (q := 7) (i := 9) (v := .int (nI (Mx 9 2))) X fk_X6_93 kh_9 rfl rfl dX6_undo_4 rfl ?_
  have hc9 := ok.2.2.2.2.2.2.2.2
  refine r_if_gt (q := 10) (tgt := 13) X (by decide) dX6_undo_7 rfl (fun c7 => ?_) (fun c7 => ?_)
  · replace c7 : 0 < (Mx 9 2) := (kI_gt0 (by omega)).mp c7
    refine r_aload_n (q := 14) (i := 0) (j := 0) (x := base + 0) X rfl rfl dX6_undo_13 rfl ?_
    refine r_getf (q := 17) (i := 0) (v := .ref (base + 9)) X fk_X6_36 kh_0 rfl rfl dX6_undo_14 rfl ?_
    refine r_aload_n (q := 18) (i := 0) (j := 0) (x := base + 0) X rfl rfl dX6_undo_17 rfl ?_
    refine r_getf (q := 21) (i := 0) (v := .ref (base + 7)) X fk_X6_26 kh_0 rfl rfl dX6_undo_18 rfl ?_
    refine r_callVv (q := 24) X (c_takeBack K.2.1 G base Mx Lx 7 kh_7 (by decide) ok.2.2.2.2.2.2.2.1 ok.2.2.2.2.2.2.2.2 (by omega)) kh_9 rfl ks_RX6_146 (by decide) (by decide) ⟨Nat.zero_le _, Nat.zero_le _⟩ rfl (Nat.le_of_ble_eq_true rfl) dX6_undo_21 rfl (fun M1 L1 hp => ?_)
    obtain ⟨e2, e3⟩ := hp
    replace e2 := e2.symm
    subst e2
    replace e3 := e3.symm
    subst e3
    refine r_aload_n (q := 25) (i := 0) (j := 0) (x := base + 0) X rfl rfl dX6_undo_24 rfl ?_
    refine r_getf (q := 28) (i := 0) (v := .ref (base + 9)) X fk_X6_36 kh_0 rfl rfl dX6_undo_25 rfl ?_
    refine r_getf (q := 31) (i := 9) (v := .int (nI (Mx 9 2 - 1))) X fk_X6_93 kh_9 rfl (kv (by unfold bk6; rw [sr_o (by decide)]; simp [up2])) dX6_undo_28 rfl ?_
    refine r_iret X Y ?_ dX6_undo_31
    exact ⟨Or.inr ⟨by omega, rfl, rfl⟩, rfl⟩
  · replace c7 : ¬ 0 < (Mx 9 2) := fun h => c7 ((kI_gt0 (by omega)).mpr h)
    refine r_bipush (q := 12) (v := (-3)) X kb_m3 dX6_undo_10 rfl ?_
    refine r_iret X Y ?_ dX6_undo_12
    exact ⟨Or.inl ⟨by omega, rfl, rfl⟩, rfl⟩
theorem kd40 {j : Nat} (h : j < 2) : ([(3, 41), (3, 42)] : List (Nat × Nat))[j]? = some (3, 41 + j) := by
  rcases (show j = 0 ∨ j = 1 by omega) with rfl | rfl <;> rfl
theorem kh_kept {j : Nat} (h : j < 2) : SH[41 + j]? = some kSt := by
  rcases (show j = 0 ∨ j = 1 by omega) with rfl | rfl <;> rfl
def keep6 (M : ks_M) (j : Nat) : ks_M := up2 (sr M (41 + j) (cp7 (M (41 + j)) (M 7))) 0 9 (M 0 9 ||| 1 <<< j)
def again6 (M : ks_M) (j : Nat) : ks_M := up2 (sr M 7 (cp7 (M 7) (M (41 + j)))) 9 2 0
set_option maxHeartbeats 8000000 in
theorem c6_keep (l : Launch) (G : ks_G) (base : Nat) (Mx : ks_M) (Lx : ks_L) (x : Int32) : KI l G base 1 yX6_keep cX6_keep 2 .int [.ref (base + 0), .int (x)] SH Mx Lx (fun rr M1 L1 => ((rr = (-1) ∧ (∀ j, j < 2 → x ≠ nI j) ∧ M1 = Mx) ∨ (∃ j, j < 2 ∧ x = nI j ∧ rr = nI (Mx 7 2) ∧ M1 = keep6 Mx j)) ∧ L1 = Lx) := by
  refine k_meti (by decide) (Nat.le_of_ble_eq_true rfl) (fun K hK X Y => ?_)
  subst hK
  refine r_pl [(0, .ref (base + 0)), (1, .int (x))] ⟨rfl, rfl, trivial⟩ ?_
  refine r_iload_n (q := 1) (i := 1) (j := 1) (x := x) X rfl rfl dX6_keep_0 rfl ?_
  refine r_if_lt (q := 4) (tgt := 13) X (by decide) dX6_keep_1 rfl (fun c1 => ?_) (fun c1 => ?_)
  · skip
    refine r_iconst (q := 14) (v := (-1)) X kc_m1 dX6_keep_13 rfl ?_
    refine r_iret X Y ?_ dX6_keep_14
    exact ⟨Or.inl ⟨rfl, fun j hj h => absurd (h ▸ c1) (nI_pos (by omega)), rfl⟩, rfl⟩
  · skip
    obtain ⟨j, hj, rfl⟩ := nI_of c1
    refine r_iload_n (q := 5) (i := 1) (j := 1) (x := nI (j)) X rfl rfl dX6_keep_4 rfl ?_
    refine r_aload_n (q := 6) (i := 0) (j := 0) (x := base + 0) X rfl rfl dX6_keep_5 rfl ?_
    refine r_getf (q := 9) (i := 0) (v := .ref (base + 40)) X fk_X6_58 kh_0 rfl rfl dX6_keep_6 rfl ?_
    refine r_alen (q := 10) (i := 40) (n := 2) X kh_40 dX6_keep_9 rfl ?_
    refine r_icmp_lt (q := 13) (tgt := 15) X (by decide) dX6_keep_10 rfl (fun c10 => ?_) (fun c10 => ?_)
    · replace c10 : j < 2 := (nI_ltI (by omega) (by omega)).mp c10
      refine r_aload_n (q := 16) (i := 0) (j := 0) (x := base + 0) X rfl rfl dX6_keep_15 rfl ?_
      refine r_getf (q := 19) (i := 0) (v := .ref (base + 40)) X fk_X6_58 kh_0 rfl rfl dX6_keep_16 rfl ?_
      refine r_iload_n (q := 20) (i := 1) (j := 1) (x := nI (j)) X rfl rfl dX6_keep_19 rfl ?_
      refine r_aald (q := 21) (i := 40) (j := j) (t := 41 + j) X kh_40 (by omega) (Nat.le_of_ble_eq_true rfl) (kd40 (by omega)) dX6_keep_20 rfl ?_
      refine r_aload_n (q := 22) (i := 0) (j := 0) (x := base + 0) X rfl rfl dX6_keep_21 rfl ?_
      refine r_getf (q := 25) (i := 0) (v := .ref (base + 7)) X fk_X6_26 kh_0 rfl rfl dX6_keep_22 rfl ?_
      refine r_callVv (q := 28) X (c_copy K.2.1 G base Mx Lx (41 + j) (kh_kept (by omega)) 7 kh_7 (by omega)) (kh_kept (by omega)) rfl ks_RX6_172 (by decide) (by decide) ⟨Nat.zero_le _, Nat.zero_le _⟩ rfl (Nat.le_of_ble_eq_true rfl) dX6_keep_25 rfl (fun M1 L1 hp => ?_)
      obtain ⟨e2, e3⟩ := hp
      replace e2 := e2.symm
      subst e2
      replace e3 := e3.symm
      subst e3
      refine r_aload_n (q := 29) (i := 0) (j := 0) (x := base + 0) X rfl rfl dX6_keep_28 rfl ?_
      refine r_dup (q := 30) X rfl dX6_keep_29 rfl ?_
      refine r_getf (q := 33) (i := 0) (v := .int (nI (Mx 0 9))) X fk_X6_66 kh_0 rfl (kv (congrFun (sr_o (by omega)) _)) dX6_keep_30 rfl ?_
      refine r_iconst (q := 34) (v := nI 1) X kc_1 dX6_keep_33 rfl ?_
      refine r_iload_n (q := 35) (i := 1) (j := 1) (x := nI (j)) X rfl rfl dX6_keep_34 rfl ?_
      refine r_ishlR (q := 36) (x := nI 1) (y := nI (j)) (v := nI (1 <<< j)) X (k_shl (by omega)) dX6_keep_35 rfl ?_
      refine r_iorR (q := 37) (x := nI (Mx 0 9)) (y := nI (1 <<< j)) (v := nI ((Mx 0 9) ||| (1 <<< j))) X (fa_or _ _) dX6_keep_36 rfl ?_
      refine r_puti (q := 40) (i := 0) (n := (Mx 0 9) ||| (1 <<< j)) X fk_X6_66 kp_X6_9 kh_0 rfl dX6_keep_37 rfl ?_
      refine r_aload_n (q := 41) (i := 0) (j := 0) (x := base + 0) X rfl rfl dX6_keep_40 rfl ?_
      refine r_getf (q := 44) (i := 0) (v := .ref (base + 7)) X fk_X6_26 kh_0 rfl rfl dX6_keep_41 rfl ?_
      refine r_getf (q := 47) (i := 7) (v := .int (nI (Mx 7 2))) X fk_X6_103 kh_7 rfl (kv (by simp only [up2]; rw [if_neg (by omega)]; exact congrFun (sr_o (by omega)) _)) dX6_keep_44 rfl ?_
      refine r_iret X Y ?_ dX6_keep_47
      exact ⟨Or.inr ⟨j, by omega, rfl, rfl, rfl⟩, rfl⟩
    · replace c10 : ¬ j < 2 := fun h => c10 ((nI_ltI (by omega) (by omega)).mpr h)
      refine r_iconst (q := 14) (v := (-1)) X kc_m1 dX6_keep_13 rfl ?_
      refine r_iret X Y ?_ dX6_keep_14
      exact ⟨Or.inl ⟨rfl, fun j hj h => by have := (kI_eq (by omega) (by omega)).mp h; omega, rfl⟩, rfl⟩
set_option maxHeartbeats 8000000 in
theorem c6_again (l : Launch) (G : ks_G) (base : Nat) (Mx : ks_M) (Lx : ks_L) (x : Int32) (h9 : Mx 0 9 < 4) : KI l G base 1 yX6_again cX6_again 2 .int [.ref (base + 0), .int (x)] SH Mx Lx (fun rr M1 L1 => ((rr = (-1) ∧ (∀ j, j < 2 → x ≠ nI j) ∧ M1 = Mx) ∨ (∃ j, j < 2 ∧ x = nI j ∧ ((Mx 0 9 >>> j &&& 1 = 0 ∧ rr = (-3) ∧ M1 = Mx) ∨ (Mx 0 9 >>> j &&& 1 ≠ 0 ∧ rr = nI (Mx (41 + j) 2) ∧ M1 = again6 Mx j)))) ∧ L1 = Lx) := by
  refine k_meti (by decide) (Nat.le_of_ble_eq_true rfl) (fun K hK X Y => ?_)
  subst hK
  refine r_pl [(0, .ref (base + 0)), (1, .int (x))] ⟨rfl, rfl, trivial⟩ ?_
  refine r_iload_n (q := 1) (i := 1) (j := 1) (x := x) X rfl rfl dX6_again_0 rfl ?_
  refine r_if_lt (q := 4) (tgt := 13) X (by decide) dX6_again_1 rfl (fun c1 => ?_) (fun c1 => ?_)
  · skip
    refine r_iconst (q := 14) (v := (-1)) X kc_m1 dX6_again_13 rfl ?_
    refine r_iret X Y ?_ dX6_again_14
    exact ⟨Or.inl ⟨rfl, fun j hj h => absurd (h ▸ c1) (nI_pos (by omega)), rfl⟩, rfl⟩
  · skip
    obtain ⟨j, hj, rfl⟩ := nI_of c1
    refine r_iload_n (q := 5) (i := 1) (j := 1) (x := nI (j)) X rfl rfl dX6_again_4 rfl ?_
    refine r_aload_n (q := 6) (i := 0) (j := 0) (x := base + 0) X rfl rfl dX6_again_5 rfl ?_
    refine r_getf (q := 9) (i := 0) (v := .ref (base + 40)) X fk_X6_58 kh_0 rfl rfl dX6_again_6 rfl ?_
    refine r_alen (q := 10) (i := 40) (n := 2) X kh_40 dX6_again_9 rfl ?_
    refine r_icmp_lt (q := 13) (tgt := 15) X (by decide) dX6_again_10 rfl (fun c10 => ?_) (fun c10 => ?_)
    · replace c10 : j < 2 := (nI_ltI (by omega) (by omega)).mp c10
      refine r_aload_n (q := 16) (i := 0) (j := 0) (x := base + 0) X rfl rfl dX6_again_15 rfl ?_
      refine r_getf (q := 19) (i := 0) (v := .int (nI (Mx 0 9))) X fk_X6_66 kh_0 rfl rfl dX6_again_16 rfl ?_
      refine r_iload_n (q := 20) (i := 1) (j := 1) (x := nI (j)) X rfl rfl dX6_again_19 rfl ?_
      refine r_ishrR (q := 21) (x := nI (Mx 0 9)) (y := nI (j)) (v := nI ((Mx 0 9) >>> j)) X (k_shr (by omega) (by omega)) dX6_again_20 rfl ?_
      refine r_iconst (q := 22) (v := nI 1) X kc_1 dX6_again_21 rfl ?_
      refine r_iandR (q := 23) (x := nI ((Mx 0 9) >>> j)) (y := nI 1) (v := nI (((Mx 0 9) >>> j) &&& 1)) X (fa_and _ _) dX6_again_22 rfl ?_
      have hb1 := k_and1 (Mx 0 9 >>> j)
      refine r_if_ne (q := 26) (tgt := 29) X (by decide) dX6_again_23 rfl (fun c23 => ?_) (fun c23 => ?_)
      · replace c23 : ¬ (((Mx 0 9) >>> j) &&& 1) = 0 := fun h => c23 ((kI_eq0 (by omega)).mpr h)
        refine r_aload_n (q := 30) (i := 0) (j := 0) (x := base + 0) X rfl rfl dX6_again_29 rfl ?_
        refine r_getf (q := 33) (i := 0) (v := .ref (base + 7)) X fk_X6_26 kh_0 rfl rfl dX6_again_30 rfl ?_
        refine r_aload_n (q := 34) (i := 0) (j := 0) (x := base + 0) X rfl rfl dX6_again_33 rfl ?_
        refine r_getf (q := 37) (i := 0) (v := .ref (base + 40)) X fk_X6_58 kh_0 rfl rfl dX6_again_34 rfl ?_
        refine r_iload_n (q := 38) (i := 1) (j := 1) (x := nI (j)) X rfl rfl dX6_again_37 rfl ?_
        refine r_aald (q := 39) (i := 40) (j := j) (t := 41 + j) X kh_40 (by omega) (Nat.le_of_ble_eq_true rfl) (kd40 (by omega)) dX6_again_38 rfl ?_
        refine r_callVv (q := 42) X (c_copy K.2.1 G base Mx Lx 7 kh_7 (41 + j) (kh_kept (by omega)) (by omega)) kh_7 rfl ks_RX6_172 (by decide) (by decide) ⟨Nat.zero_le _, Nat.zero_le _⟩ rfl (Nat.le_of_ble_eq_true rfl) dX6_again_39 rfl (fun M1 L1 hp => ?_)
        obtain ⟨e2, e3⟩ := hp
        replace e2 := e2.symm
        subst e2
        replace e3 := e3.symm
        subst e3
        refine r_aload_n (q := 43) (i := 0) (j := 0) (x := base + 0) X rfl rfl dX6_again_42 rfl ?_
        refine r_getf (q := 46) (i := 0) (v := .ref (base + 9)) X fk_X6_36 kh_0 rfl rfl dX6_again_43 rfl ?_
        refine r_iconst (q := 47) (v := nI 0) X kc_0 dX6_again_46 rfl ?_
        refine r_puti (q := 50) (i := 9) (n := 0) X fk_X6_93 kp_X0_2 kh_9 rfl dX6_again_47 rfl ?_
        refine r_aload_n (q := 51) (i := 0) (j := 0) (x := base + 0) X rfl rfl dX6_again_50 rfl ?_
        refine r_getf (q := 54) (i := 0) (v := .ref (base + 7)) X fk_X6_26 kh_0 rfl rfl dX6_again_51 rfl ?_
        refine r_getf (q := 57) (i := 7) (v := .int (nI (Mx (41 + j) 2))) X fk_X6_103 kh_7 rfl (kv (by simp only [up2]; rw [if_neg (by omega), sr_s]; simp [cp7])) dX6_again_54 rfl ?_
        refine r_iret X Y ?_ dX6_again_57
        exact ⟨Or.inr ⟨j, by omega, rfl, Or.inr ⟨by omega, rfl, rfl⟩⟩, rfl⟩
      · replace c23 : (((Mx 0 9) >>> j) &&& 1) = 0 := (kI_eq0 (by omega)).mp c23
        refine r_bipush (q := 28) (v := (-3)) X kb_m3 dX6_again_26 rfl ?_
        refine r_iret X Y ?_ dX6_again_28
        exact ⟨Or.inr ⟨j, by omega, rfl, Or.inl ⟨by omega, rfl, rfl⟩⟩, rfl⟩
    · replace c10 : ¬ j < 2 := fun h => c10 ((nI_ltI (by omega) (by omega)).mpr h)
      refine r_iconst (q := 14) (v := (-1)) X kc_m1 dX6_again_13 rfl ?_
      refine r_iret X Y ?_ dX6_again_14
      exact ⟨Or.inl ⟨rfl, fun j hj h => by have := (kI_eq (by omega) (by omega)).mp h; omega, rfl⟩, rfl⟩
set_option maxHeartbeats 8000000 in
theorem c6_unsee (l : Launch) (G : ks_G) (base : Nat) (Mx : ks_M) (Lx : ks_L)  : KI l G base 0 yX6_unsee cX6_unsee 2 .int [.ref (base + 0)] SH Mx Lx (fun rr M1 L1 => rr = nI (Mx 35 4) ∧ M1 = up2 Mx 35 4 0 ∧ L1 = Lx) := by
  refine k_meti (by decide) (Nat.le_of_ble_eq_true rfl) (fun K hK X Y => ?_)
  subst hK
  refine r_pl [(0, .ref (base + 0))] ⟨rfl, trivial⟩ ?_
  refine r_aload_n (q := 1) (i := 0) (j := 0) (x := base + 0) X rfl rfl dX6_unsee_0 rfl ?_
  refine r_getf (q := 4) (i := 0) (v := .ref (base + 35)) X fk_X6_50 kh_0 rfl rfl dX6_unsee_1 rfl ?_
  refine r_getf (q := 7) (i := 35) (v := .int (nI (Mx 35 4))) X fk_X6_115 kh_35 rfl rfl dX6_unsee_4 rfl ?_
  refine r_istore_n (q := 8) (i := 1) (j := 1) X rfl (Nat.le_of_ble_eq_true rfl) dX6_unsee_7 rfl ?_
  refine r_aload_n (q := 9) (i := 0) (j := 0) (x := base + 0) X rfl rfl dX6_unsee_8 rfl ?_
  refine r_getf (q := 12) (i := 0) (v := .ref (base + 35)) X fk_X6_50 kh_0 rfl rfl dX6_unsee_9 rfl ?_
  refine r_iconst (q := 13) (v := nI 0) X kc_0 dX6_unsee_12 rfl ?_
  refine r_puti (q := 16) (i := 35) (n := 0) X fk_X6_115 kp_X2_4 kh_35 rfl dX6_unsee_13 rfl ?_
  refine r_iload_n (q := 17) (i := 1) (j := 1) (x := nI (Mx 35 4)) X rfl rfl dX6_unsee_16 rfl ?_
  refine r_iret X Y ?_ dX6_unsee_17
  exact ⟨rfl, rfl, rfl⟩
set_option maxHeartbeats 8000000 in
theorem c6_seed (l : Launch) (G : ks_G) (base : Nat) (Mx : ks_M) (Lx : ks_L) (v : Int64) : KL l G base 0 yX6_seed cX6_seed 5 [.ref (base + 0), .long (v)] SH Mx Lx (fun rr M1 L1 => rr = Lx 0 ∧ M1 = Mx ∧ L1 = upl Lx 0 v) := by
  refine k_metl (by decide) (Nat.le_of_ble_eq_true rfl) (fun K hK X Y => ?_)
  subst hK
  refine r_pl [(0, .ref (base + 0)), (1, .long (v))] ⟨rfl, rfl, trivial⟩ ?_
  refine r_aload_n (q := 1) (i := 0) (j := 0) (x := base + 0) X rfl rfl dX6_seed_0 rfl ?_
  refine r_getf (q := 4) (i := 0) (v := .long (Lx 0)) X fk_X6_70 kh_0 rfl rfl dX6_seed_1 rfl ?_
  refine r_lstore_n (q := 5) (i := 3) (j := 3) X rfl (Nat.le_of_ble_eq_true rfl) dX6_seed_4 rfl ?_
  refine r_aload_n (q := 6) (i := 0) (j := 0) (x := base + 0) X rfl rfl dX6_seed_5 rfl ?_
  refine r_lload_n (q := 7) (i := 1) (j := 1) (x := v) X rfl rfl dX6_seed_6 rfl ?_
  refine r_putl (q := 10) (i := 0) (x := v) X fk_X6_70 kp_X6_10 kh_0 rfl (ks_ho (by decide)) dX6_seed_7 rfl ?_
  refine r_lload_n (q := 11) (i := 3) (j := 3) (x := (Lx 0)) X rfl rfl dX6_seed_10 rfl ?_
  refine r_lret X Y ?_ dX6_seed_11
  exact ⟨rfl, rfl, rfl⟩
end
section
/-! THE REFERENCE: notes, acts, slots -/
def cpr (M : ks_M) (d s od os k : Nat) : ks_M := sr M d (fun c => if od ≤ c ∧ c < od + k then M s (os + (c - od)) else M d c)
theorem cpr_0 (M : ks_M) (d s od os : Nat) : M = cpr M d s od os 0 := by
  funext a c
  by_cases h : a = d
  · subst h
    simp only [cpr, sr, if_true]
    rw [if_neg (by omega)]
  · simp [cpr, sr, h]
theorem cpr_o {M : ks_M} {d s od os k a : Nat} (h : a ≠ d) : cpr M d s od os k a = M a := sr_o h
theorem cpr_s (M : ks_M) (d s od os k : Nat) : up2 (cpr M d s od os k) d (od + k) (M s (os + k)) = cpr M d s od os (k + 1) := by
  funext a c
  by_cases h : a = d
  · subst h
    by_cases h2 : c = od + k
    · subst h2
      simp only [up2, cpr, sr, if_true, and_self]
      rw [if_pos (by omega)]
      congr 1; omega
    · simp only [up2, cpr, sr, if_true, h2, and_false, if_false]
      by_cases h3 : od ≤ c ∧ c < od + k
      · rw [if_pos h3, if_pos (by omega)]
      · rw [if_neg h3, if_neg (by omega)]
  · simp [up2, cpr, sr, h]
theorem cpr_s0 (M : ks_M) (d s os k : Nat) : up2 (cpr M d s 0 os k) d k (M s (os + k)) = cpr M d s 0 os (k + 1) := by
  have h := cpr_s M d s 0 os k
  rw [Nat.zero_add] at h
  exact h
theorem cpr_r (M : ks_M) (d os k : Nat) (h : 0 < os) : cpr M d d 0 os k d (k + os) = M d (os + k) := by
  simp only [cpr, sr, if_true]
  rw [if_neg (by omega), Nat.add_comm]
def sh7 (M : ks_M) : ks_M := if M 44 14 = 14 then up2 (cpr M 52 52 0 12 156) 44 14 13 else M
def nt7 (M : ks_M) : ks_M := up2 (cpr (sh7 M) 52 49 (12 * sh7 M 44 14) 0 12) 44 14 (sh7 M 44 14 + 1)
def un7 (M : ks_M) : ks_M := cpr (up2 M 44 14 (M 44 14 - 1)) 49 52 0 (12 * (M 44 14 - 1)) 12
theorem sh7_14 {M : ks_M} (h : M 44 14 ≤ 14) : sh7 M 44 14 < 14 := by
  unfold sh7; split
  · rw [up2_s]; decide
  · omega
theorem sh7_49 (M : ks_M) : sh7 M 49 = M 49 := by
  unfold sh7; split
  · funext c; rw [up2_o (by decide)]; exact congrFun (cpr_o (by decide)) c
  · rfl
theorem nt7_o {M : ks_M} {a : Nat} (h : a ≠ 44) (h2 : a ≠ 52) : nt7 M a = M a := by
  funext c
  unfold nt7
  rw [up2_o h, cpr_o h2]
  unfold sh7; split
  · rw [up2_o h, cpr_o h2]
  · rfl
theorem nt7_44 {M : ks_M} {c : Nat} (h : c ≠ 14) : nt7 M 44 c = M 44 c := by
  unfold nt7
  rw [up2_k h, cpr_o (by decide)]
  unfold sh7; split
  · rw [up2_k h, cpr_o (by decide)]
  · rfl
set_option maxHeartbeats 8000000 in
theorem c_note (l : Launch) (G : ks_G) (base : Nat) (Mx : ks_M) (Lx : ks_L) (hc : Mx 44 14 ≤ 14) : KV l G base 0 0 0 yX7_note cX7_note 2 [.ref (base + 44)] SH SH Mx Lx (fun M1 L1 => M1 = nt7 Mx ∧ L1 = Lx) := by
  refine k_metv (by decide) (Nat.le_of_ble_eq_true rfl) (fun K hK hRm X Y => ?_)
  subst hK
  have lp : ∀ (fuel : Nat) (k : Nat) (Mv : ks_M), 12 - k < fuel → (k ≤ 12) → (Mv 44 14 < 14) → (up2 (cpr Mv 52 49 (12 * Mv 44 14) 0 12) 44 14 (Mv 44 14 + 1) = nt7 Mx) → RN K G base 2 0 0 SH ((cpr Mv 52 49 (12 * Mv 44 14) 0 k)) Lx 51 [(0, .ref (base + 44)), (1, .int (nI (k)))] [] := by
    intro fuel
    induction fuel with
    | zero => intro k Mv hfu; exact absurd hfu (Nat.not_lt_zero _)
    | succ fuel ih =>
      intro k Mv hfu hk hA hE
      refine r_iload_n (q := 52) (i := 1) (j := 1) (x := nI (k)) X rfl rfl dX7_note_51 rfl ?_
      refine r_bipush (q := 54) (v := nI 12) X kb_12 dX7_note_52 rfl ?_
      refine r_icmp_ge (q := 57) (tgt := 83) X (by decide) dX7_note_54 rfl (fun c54 => ?_) (fun c54 => ?_)
      · replace c54 : 12 ≤ k := (nI_leI (by omega) (by omega)).mp c54
        refine r_aload_n (q := 84) (i := 0) (j := 0) (x := base + 44) X rfl rfl dX7_note_83 rfl ?_
        refine r_dup (q := 85) X rfl dX7_note_84 rfl ?_
        refine r_getf (q := 88) (i := 44) (v := .int (nI (Mv 44 14))) X fk_X7_95 kh_44 rfl (kv (congrFun (cpr_o (by decide)) _)) dX7_note_85 rfl ?_
        refine r_iconst (q := 89) (v := nI 1) X kc_1 dX7_note_88 rfl ?_
        refine r_iaddR (q := 90) (x := nI (Mv 44 14)) (y := nI 1) (v := nI ((Mv 44 14) + 1)) X (nI_add _ _) dX7_note_89 rfl ?_
        refine r_puti (q := 93) (i := 44) (n := (Mv 44 14) + 1) X fk_X7_95 kp_X7_14 kh_44 rfl dX7_note_90 rfl ?_
        refine r_vret X Y ?_ dX7_note_93
        obtain rfl : k = 12 := by omega
        exact ⟨hE, rfl⟩
      · replace c54 : ¬ 12 ≤ k := fun h => c54 ((nI_leI (by omega) (by omega)).mpr h)
        refine r_aload_n (q := 58) (i := 0) (j := 0) (x := base + 44) X rfl rfl dX7_note_57 rfl ?_
        refine r_getf (q := 61) (i := 44) (v := .ref (base + 52)) X fk_X7_31 kh_44 rfl rfl dX7_note_58 rfl ?_
        refine r_bipush (q := 63) (v := nI 12) X kb_12 dX7_note_61 rfl ?_
        refine r_aload_n (q := 64) (i := 0) (j := 0) (x := base + 44) X rfl rfl dX7_note_63 rfl ?_
        refine r_getf (q := 67) (i := 44) (v := .int (nI (Mv 44 14))) X fk_X7_95 kh_44 rfl (kv (congrFun (cpr_o (by decide)) _)) dX7_note_64 rfl ?_
        refine r_imulR (q := 68) (x := nI 12) (y := nI (Mv 44 14)) (v := nI (12 * (Mv 44 14))) X (pk_mul _ _) dX7_note_67 rfl ?_
        refine r_iload_n (q := 69) (i := 1) (j := 1) (x := nI (k)) X rfl rfl dX7_note_68 rfl ?_
        refine r_iaddR (q := 70) (x := nI (12 * (Mv 44 14))) (y := nI (k)) (v := nI ((12 * (Mv 44 14)) + k)) X (nI_add _ _) dX7_note_69 rfl ?_
        refine r_aload_n (q := 71) (i := 0) (j := 0) (x := base + 44) X rfl rfl dX7_note_70 rfl ?_
        refine r_getf (q := 74) (i := 44) (v := .ref (base + 49)) X fk_X7_22 kh_44 rfl rfl dX7_note_71 rfl ?_
        refine r_iload_n (q := 75) (i := 1) (j := 1) (x := nI (k)) X rfl rfl dX7_note_74 rfl ?_
        refine r_iald (q := 76) (i := 49) (j := k) (v := Mv 49 (0 + k)) X kh_49 (by omega) (Nat.le_of_ble_eq_true rfl) (by rw [cpr_o (by decide), Nat.zero_add]) dX7_note_75 rfl ?_
        refine r_iast (q := 77) (i := 52) (j := (12 * (Mv 44 14)) + k) (v := Mv 49 (0 + k)) X kh_52 (by omega) (Nat.le_of_ble_eq_true rfl) dX7_note_76 rfl ?_
        refine r_iinc (q := 80) (i := 1) (x := nI (k)) (v := nI (k + 1)) X rfl (Nat.le_of_ble_eq_true rfl) (kinc 1 rfl) dX7_note_77 rfl ?_
        refine r_goto (tgt := 51) X (by decide) dX7_note_80 ?_
        refine r_pl [(0, .ref (base + 44)), (1, .int (nI (k + 1)))] ⟨rfl, rfl, trivial⟩ ?_
        exact r_mem _ (cpr_s Mv 52 49 (12 * Mv 44 14) 0 k) (ih (k + 1) Mv (by omega) (by omega) hA hE)
  refine r_pl [(0, .ref (base + 44))] ⟨rfl, trivial⟩ ?_
  refine r_aload_n (q := 1) (i := 0) (j := 0) (x := base + 44) X rfl rfl dX7_note_0 rfl ?_
  refine r_getf (q := 4) (i := 44) (v := .int (nI (Mx 44 14))) X fk_X7_95 kh_44 rfl rfl dX7_note_1 rfl ?_
  refine r_bipush (q := 6) (v := nI 14) X kb_14 dX7_note_4 rfl ?_
  refine r_icmp_ne (q := 9) (tgt := 49) X (by decide) dX7_note_6 rfl (fun c6 => ?_) (fun c6 => ?_)
  · replace c6 : ¬ (Mx 44 14) = 14 := fun h => c6 ((kI_eq (by omega) (by omega)).mpr h)
    refine r_iconst (q := 50) (v := nI 0) X kc_0 dX7_note_49 rfl ?_
    refine r_istore_n (q := 51) (i := 1) (j := 1) X rfl (Nat.le_of_ble_eq_true rfl) dX7_note_50 rfl ?_
    refine r_pl [(0, .ref (base + 44)), (1, .int (nI (0)))] ⟨rfl, rfl, trivial⟩ ?_
    have es : sh7 Mx = Mx := by unfold sh7; rw [if_neg c6]
    refine r_mem _ (cpr_0 _ 52 49 _ 0) (lp 13 0 Mx (by omega) (by omega) (by omega) ?_)
    unfold nt7; rw [es]
  · replace c6 : (Mx 44 14) = 14 := (kI_eq (by omega) (by omega)).mp c6
    refine r_iconst (q := 10) (v := nI 0) X kc_0 dX7_note_9 rfl ?_
    refine r_istore_n (q := 11) (i := 1) (j := 1) X rfl (Nat.le_of_ble_eq_true rfl) dX7_note_10 rfl ?_
    have lq : ∀ (fuel : Nat) (k : Nat), 156 - k < fuel → (k ≤ 156) → RN K G base 2 0 0 SH ((cpr Mx 52 52 0 12 k)) Lx 11 [(0, .ref (base + 44)), (1, .int (nI (k)))] [] := by
      intro fuel
      induction fuel with
      | zero => intro k hfu; exact absurd hfu (Nat.not_lt_zero _)
      | succ fuel ih =>
        intro k hfu hk
        refine r_iload_n (q := 12) (i := 1) (j := 1) (x := nI (k)) X rfl rfl dX7_note_11 rfl ?_
        refine r_sipush (q := 15) (v := nI 156) X ks_156 dX7_note_12 rfl ?_
        refine r_icmp_ge (q := 18) (tgt := 39) X (by decide) dX7_note_15 rfl (fun c15 => ?_) (fun c15 => ?_)
        · replace c15 : 156 ≤ k := (nI_leI (by omega) (by omega)).mp c15
          refine r_aload_n (q := 40) (i := 0) (j := 0) (x := base + 44) X rfl rfl dX7_note_39 rfl ?_
          refine r_dup (q := 41) X rfl dX7_note_40 rfl ?_
          refine r_getf (q := 44) (i := 44) (v := .int (nI (14))) X fk_X7_95 kh_44 rfl (kv (by rw [cpr_o (by decide)]; exact c6)) dX7_note_41 rfl ?_
          refine r_iconst (q := 45) (v := nI 1) X kc_1 dX7_note_44 rfl ?_
          refine r_isubR (q := 46) (x := nI (14)) (y := nI 1) (v := nI 13) X rfl dX7_note_45 rfl ?_
          refine r_puti (q := 49) (i := 44) (n := 13) X fk_X7_95 kp_X7_14 kh_44 rfl dX7_note_46 rfl ?_
          refine r_iconst (q := 50) (v := nI 0) X kc_0 dX7_note_49 rfl ?_
          refine r_istore_n (q := 51) (i := 1) (j := 1) X rfl (Nat.le_of_ble_eq_true rfl) dX7_note_50 rfl ?_
          obtain rfl : k = 156 := by omega
          refine r_pl [(0, .ref (base + 44)), (1, .int (nI (0)))] ⟨rfl, rfl, trivial⟩ ?_
          have es : sh7 Mx = up2 (cpr Mx 52 52 0 12 156) 44 14 13 := by unfold sh7; rw [if_pos c6]
          refine r_mem _ (cpr_0 _ 52 49 _ 0) (lp 13 0 (up2 (cpr Mx 52 52 0 12 156) 44 14 13) (by omega) (by omega) (by rw [up2_s]; decide) ?_)
          rw [← es]; rfl
        · replace c15 : ¬ 156 ≤ k := fun h => c15 ((nI_leI (by omega) (by omega)).mpr h)
          refine r_aload_n (q := 19) (i := 0) (j := 0) (x := base + 44) X rfl rfl dX7_note_18 rfl ?_
          refine r_getf (q := 22) (i := 44) (v := .ref (base + 52)) X fk_X7_31 kh_44 rfl rfl dX7_note_19 rfl ?_
          refine r_iload_n (q := 23) (i := 1) (j := 1) (x := nI (k)) X rfl rfl dX7_note_22 rfl ?_
          refine r_aload_n (q := 24) (i := 0) (j := 0) (x := base + 44) X rfl rfl dX7_note_23 rfl ?_
          refine r_getf (q := 27) (i := 44) (v := .ref (base + 52)) X fk_X7_31 kh_44 rfl rfl dX7_note_24 rfl ?_
          refine r_iload_n (q := 28) (i := 1) (j := 1) (x := nI (k)) X rfl rfl dX7_note_27 rfl ?_
          refine r_bipush (q := 30) (v := nI 12) X kb_12 dX7_note_28 rfl ?_
          refine r_iaddR (q := 31) (x := nI (k)) (y := nI 12) (v := nI (k + 12)) X (nI_add _ _) dX7_note_30 rfl ?_
          refine r_iald (q := 32) (i := 52) (j := k + 12) (v := Mx 52 (12 + k)) X kh_52 (by omega) (Nat.le_of_ble_eq_true rfl) (cpr_r Mx 52 12 k (by decide)) dX7_note_31 rfl ?_
          refine r_iast (q := 33) (i := 52) (j := k) (v := Mx 52 (12 + k)) X kh_52 (by omega) (Nat.le_of_ble_eq_true rfl) dX7_note_32 rfl ?_
          refine r_iinc (q := 36) (i := 1) (x := nI (k)) (v := nI (k + 1)) X rfl (Nat.le_of_ble_eq_true rfl) (kinc 1 rfl) dX7_note_33 rfl ?_
          refine r_goto (tgt := 11) X (by decide) dX7_note_36 ?_
          refine r_pl [(0, .ref (base + 44)), (1, .int (nI (k + 1)))] ⟨rfl, rfl, trivial⟩ ?_
          exact r_mem _ (cpr_s0 Mx 52 52 12 k) (ih (k + 1) (by omega) (by omega))
    refine r_pl [(0, .ref (base + 44)), (1, .int (nI (0)))] ⟨rfl, rfl, trivial⟩ ?_
    exact r_mem _ (cpr_0 Mx 52 52 0 12) (lq 157 0 (by omega) (by omega))
set_option maxHeartbeats 8000000 in
theorem c7_undo (l : Launch) (G : ks_G) (base : Nat) (Mx : ks_M) (Lx : ks_L) (hth : Mx 44 0 = 0) (hc : Mx 44 14 ≤ 14) : KI l G base 0 yX7_undo cX7_undo 2 .int [.ref (base + 44)] SH Mx Lx (fun rr M1 L1 => ((Mx 44 14 = 0 ∧ rr = (-3) ∧ M1 = Mx) ∨ (0 < Mx 44 14 ∧ rr = nI (Mx 44 14 - 1) ∧ M1 = un7 Mx)) ∧ L1 = Lx) := by
  refine k_meti (by decide) (Nat.le_of_ble_eq_true rfl) (fun K hK X Y => ?_)
  subst hK
  refine r_pl [(0, .ref (base + 44))] ⟨rfl, trivial⟩ ?_
  refine r_aload_n (q := 1) (i := 0) (j := 0) (x := base + 44) X rfl rfl dX7_undo_0 rfl ?_
  refine r_iconst (q := 2) (v := nI 0) X kc_0 dX7_undo_1 rfl ?_
  refine r_puti (q := 5) (i := 44) (n := 0) X fk_X7_59 kp_X7_0 kh_44 rfl dX7_undo_2 rfl ?_
  refine r_mem Mx (up2_id hth) ?_
  refine r_aload_n (q := 6) (i := 0) (j := 0) (x := base + 44) X rfl rfl dX7_undo_5 rfl ?_
  refine r_getf (q := 9) (i := 44) (v := .int (nI (Mx 44 14))) X fk_X7_95 kh_44 rfl rfl dX7_undo_6 rfl ?_
  refine r_if_ne (q := 12) (tgt := 15) X (by decide) dX7_undo_9 rfl (fun c9 => ?_) (fun c9 => ?_)
  · replace c9 : ¬ (Mx 44 14) = 0 := fun h => c9 ((kI_eq0 (by omega)).mpr h)
    refine r_aload_n (q := 16) (i := 0) (j := 0) (x := base + 44) X rfl rfl dX7_undo_15 rfl ?_
    refine r_dup (q := 17) X rfl dX7_undo_16 rfl ?_
    refine r_getf (q := 20) (i := 44) (v := .int (nI (Mx 44 14))) X fk_X7_95 kh_44 rfl rfl dX7_undo_17 rfl ?_
    refine r_iconst (q := 21) (v := nI 1) X kc_1 dX7_undo_20 rfl ?_
    refine r_isubR (q := 22) (x := nI (Mx 44 14)) (y := nI 1) (v := nI ((Mx 44 14) - 1)) X (pk_sub (by omega)) dX7_undo_21 rfl ?_
    refine r_puti (q := 25) (i := 44) (n := (Mx 44 14) - 1) X fk_X7_95 kp_X7_14 kh_44 rfl dX7_undo_22 rfl ?_
    refine r_iconst (q := 26) (v := nI 0) X kc_0 dX7_undo_25 rfl ?_
    refine r_istore_n (q := 27) (i := 1) (j := 1) X rfl (Nat.le_of_ble_eq_true rfl) dX7_undo_26 rfl ?_
    have lp : ∀ (fuel : Nat) (k : Nat), 12 - k < fuel → (k ≤ 12) → RN K G base 2 0 0 SH ((cpr (up2 Mx 44 14 (Mx 44 14 - 1)) 49 52 0 (12 * (Mx 44 14 - 1)) k)) Lx 27 [(0, .ref (base + 44)), (1, .int (nI (k)))] [] := by
      intro fuel
      induction fuel with
      | zero => intro k hfu; exact absurd hfu (Nat.not_lt_zero _)
      | succ fuel ih =>
        intro k hfu hk
        refine r_iload_n (q := 28) (i := 1) (j := 1) (x := nI (k)) X rfl rfl dX7_undo_27 rfl ?_
        refine r_bipush (q := 30) (v := nI 12) X kb_12 dX7_undo_28 rfl ?_
        refine r_icmp_ge (q := 33) (tgt := 59) X (by decide) dX7_undo_30 rfl (fun c30 => ?_) (fun c30 => ?_)
        · replace c30 : 12 ≤ k := (nI_leI (by omega) (by omega)).mp c30
          refine r_aload_n (q := 60) (i := 0) (j := 0) (x := base + 44) X rfl rfl dX7_undo_59 rfl ?_
          refine r_getf (q := 63) (i := 44) (v := .int (nI (Mx 44 14 - 1))) X fk_X7_95 kh_44 rfl (kv (by rw [cpr_o (by decide)]; simp [up2])) dX7_undo_60 rfl ?_
          refine r_iret X Y ?_ dX7_undo_63
          obtain rfl : k = 12 := by omega
          exact ⟨Or.inr ⟨by omega, rfl, rfl⟩, rfl⟩
        · replace c30 : ¬ 12 ≤ k := fun h => c30 ((nI_leI (by omega) (by omega)).mpr h)
          refine r_aload_n (q := 34) (i := 0) (j := 0) (x := base + 44) X rfl rfl dX7_undo_33 rfl ?_
          refine r_getf (q := 37) (i := 44) (v := .ref (base + 49)) X fk_X7_22 kh_44 rfl rfl dX7_undo_34 rfl ?_
          refine r_iload_n (q := 38) (i := 1) (j := 1) (x := nI (k)) X rfl rfl dX7_undo_37 rfl ?_
          refine r_aload_n (q := 39) (i := 0) (j := 0) (x := base + 44) X rfl rfl dX7_undo_38 rfl ?_
          refine r_getf (q := 42) (i := 44) (v := .ref (base + 52)) X fk_X7_31 kh_44 rfl rfl dX7_undo_39 rfl ?_
          refine r_bipush (q := 44) (v := nI 12) X kb_12 dX7_undo_42 rfl ?_
          refine r_aload_n (q := 45) (i := 0) (j := 0) (x := base + 44) X rfl rfl dX7_undo_44 rfl ?_
          refine r_getf (q := 48) (i := 44) (v := .int (nI (Mx 44 14 - 1))) X fk_X7_95 kh_44 rfl (kv (by rw [cpr_o (by decide)]; simp [up2])) dX7_undo_45 rfl ?_
          refine r_imulR (q := 49) (x := nI 12) (y := nI (Mx 44 14 - 1)) (v := nI (12 * (Mx 44 14 - 1))) X (pk_mul _ _) dX7_undo_48 rfl ?_
          refine r_iload_n (q := 50) (i := 1) (j := 1) (x := nI (k)) X rfl rfl dX7_undo_49 rfl ?_
          refine r_iaddR (q := 51) (x := nI (12 * (Mx 44 14 - 1))) (y := nI (k)) (v := nI ((12 * (Mx 44 14 - 1)) + k)) X (nI_add _ _) dX7_undo_50 rfl ?_
          refine r_iald (q := 52) (i := 52) (j := (12 * (Mx 44 14 - 1)) + k) (v := Mx 52 (12 * (Mx 44 14 - 1) + k)) X kh_52 (by omega) (Nat.le_of_ble_eq_true rfl) (by rw [cpr_o (by decide)]; simp [up2]) dX7_undo_51 rfl ?_
          refine r_iast (q := 53) (i := 49) (j := k) (v := Mx 52 (12 * (Mx 44 14 - 1) + k)) X kh_49 (by omega) (Nat.le_of_ble_eq_true rfl) dX7_undo_52 rfl ?_
          refine r_iinc (q := 56) (i := 1) (x := nI (k)) (v := nI (k + 1)) X rfl (Nat.le_of_ble_eq_true rfl) (kinc 1 rfl) dX7_undo_53 rfl ?_
          refine r_goto (tgt := 27) X (by decide) dX7_undo_56 ?_
          refine r_pl [(0, .ref (base + 44)), (1, .int (nI (k + 1)))] ⟨rfl, rfl, trivial⟩ ?_
          exact r_mem _ (cpr_s0 (up2 Mx 44 14 (Mx 44 14 - 1)) 49 52 (12 * (Mx 44 14 - 1)) k) (ih (k + 1) (by omega) (by omega))
    refine r_pl [(0, .ref (base + 44)), (1, .int (nI (0)))] ⟨rfl, rfl, trivial⟩ ?_
    exact r_mem _ (cpr_0 (up2 Mx 44 14 (Mx 44 14 - 1)) 49 52 0 _) (lp 13 0 (by omega) (by omega))
  · replace c9 : (Mx 44 14) = 0 := (kI_eq0 (by omega)).mp c9
    refine r_bipush (q := 14) (v := (-3)) X kb_m3 dX7_undo_12 rfl ?_
    refine r_iret X Y ?_ dX7_undo_14
    exact ⟨Or.inl ⟨by omega, rfl, rfl⟩, rfl⟩
end
section
/-! THE REFERENCE: walk, look, pause, lamp, key, slots, asked -/
def okP (M : ks_M) : Prop := M 44 0 = 0 ∧ M 44 4 ≤ 6 ∧ M 49 0 < 6 ∧ M 49 1 < 1000 ∧ M 49 2 < 100000 ∧ M 49 4 < 64 ∧ M 49 5 < 64 ∧ (∀ h, M 49 (6 + h) < 8) ∧ M 44 14 ≤ 14 ∧ (∀ k, M 46 k < 4) ∧ (∀ k, M 47 k < 10)
def act7 (M : ks_M) (t : Nat) : ks_M := sr (nt7 M) 49 (tk7 M (M 49) t)
theorem act7_49 (M : ks_M) (t : Nat) : act7 M t 49 = tk7 M (M 49) t := sr_s _ _ _
theorem sg7_eq {M M' : ks_M} (h1 : M' 46 = M 46) (h2 : M' 47 = M 47) (y : Nat → Nat) (h t : Nat) : sg7 M' y h t = sg7 M y h t := by unfold sg7; rw [h1, h2]
theorem gn7_eq {M M' : ks_M} (h1 : M' 46 = M 46) (h2 : M' 47 = M 47) (y : Nat → Nat) : gn7 M' y = gn7 M y := by unfold gn7; rw [sg7_eq h1 h2]
theorem tk7_eq {M M' : ks_M} (h1 : M' 46 = M 46) (h2 : M' 47 = M 47) (y : Nat → Nat) (t : Nat) : tk7 M' y t = tk7 M y t := by unfold tk7; rw [gn7_eq h1 h2]
theorem cn7_2 (n : Nat) (y : Nat → Nat) (t : Nat) : cn7 n y t < 2 := by unfold cn7; (repeat' split) <;> decide
theorem cn7_0 {n : Nat} {y : Nat → Nat} (h : cn7 n y 0 = 1) : 0 < y 0 := by
  unfold cn7 at h; rw [if_pos rfl] at h; split at h <;> first | assumption | cases h
theorem cn7_look {n : Nat} {y : Nat → Nat} (h : cn7 n y 2 = 1) : 0 < y 1 := by
  unfold cn7 at h; rw [if_neg (by decide), if_neg (by decide), if_neg (by decide)] at h; split at h
  · next h1 => exact h1.2
  · cases h
set_option maxHeartbeats 8000000 in
theorem c7_walk (l : Launch) (G : ks_G) (base : Nat) (Mx : ks_M) (Lx : ks_L) (x : Int32) (ok : okP Mx) : KI l G base 3 yX7_walk cX7_walk 2 .int [.ref (base + 44), .int (x)] SH Mx Lx (fun rr M1 L1 => (rr = (-2) ∧ (∀ t, t < 2 → x ≠ nI t) ∧ M1 = Mx ∧ L1 = Lx) ∨ (∃ t, t < 2 ∧ x = nI t ∧ ((cn7 (Mx 44 4) (Mx 49) t = 0 ∧ rr = (-3) ∧ M1 = Mx) ∨ (cn7 (Mx 44 4) (Mx 49) t = 1 ∧ rr = nI (tk7 Mx (Mx 49) t 0) ∧ M1 = act7 Mx t)) ∧ L1 = Lx)) := by
  refine k_meti (by decide) (Nat.le_of_ble_eq_true rfl) (fun K hK X Y => ?_)
  subst hK
  refine r_pl [(0, .ref (base + 44)), (1, .int (x))] ⟨rfl, rfl, trivial⟩ ?_
  have hth := ok.1
  refine r_aload_n (q := 1) (i := 0) (j := 0) (x := base + 44) X rfl rfl dX7_walk_0 rfl ?_
  refine r_iconst (q := 2) (v := nI 0) X kc_0 dX7_walk_1 rfl ?_
  refine r_puti (q := 5) (i := 44) (n := 0) X fk_X7_59 kp_X7_0 kh_44 rfl dX7_walk_2 rfl ?_
  refine r_mem Mx (up2_id hth) ?_
  refine r_iload_n (q := 6) (i := 1) (j := 1) (x := x) X rfl rfl dX7_walk_5 rfl ?_
  refine r_i2l (q := 7) (v := x.toInt64) X rfl dX7_walk_6 rfl ?_
  refine r_lconst (q := 8) (v := 0) X rfl dX7_walk_7 rfl ?_
  refine r_lconst (q := 9) (v := 1) X rfl dX7_walk_8 rfl ?_
  refine r_callSi (q := 12) X (c_in K.2.1 G base Mx Lx x.toInt64 0 1) ks_RX7_66 (by decide) (by decide) ⟨Nat.zero_le _, Nat.zero_le _⟩ rfl (Nat.le_of_ble_eq_true rfl) dX7_walk_9 rfl (fun r M1 L1 hp => ?_)
  have hk := kIn (x := x) (y := 0) (z := 1) (a := 0) (b := 1) rfl rfl (by omega) (by omega)
  rcases hp with ⟨e1, hin, hp2⟩ | ⟨e1, hin, hp2⟩
  · subst e1
    obtain ⟨e2, e3⟩ := hp2
    replace e2 := e2.symm
    subst e2
    replace e3 := e3.symm
    subst e3
    rw [hk] at hin
    obtain ⟨b, -, hb, rfl⟩ := hin
    refine r_if_ne (q := 15) (tgt := 18) X (by decide) dX7_walk_12 rfl (fun _ => ?_) (fun c => absurd c (by decide))
    refine r_aload_n (q := 19) (i := 0) (j := 0) (x := base + 44) X rfl rfl dX7_walk_18 rfl ?_
    refine r_aload_n (q := 20) (i := 0) (j := 0) (x := base + 44) X rfl rfl dX7_walk_19 rfl ?_
    refine r_getf (q := 23) (i := 44) (v := .ref (base + 49)) X fk_X7_22 kh_44 rfl rfl dX7_walk_20 rfl ?_
    refine r_iload_n (q := 24) (i := 1) (j := 1) (x := nI (b)) X rfl rfl dX7_walk_23 rfl ?_
    refine r_callVi (q := 27) X (c_can7 K.2.1 G base Mx Lx 49 b kh_49 (by omega) (by have := ok.2.2.1; omega) (by have := ok.2.2.2.1; omega) ok.2.1) kh_44 rfl ks_RX7_121 (by decide) (by decide) ⟨Nat.zero_le _, Nat.zero_le _⟩ rfl (Nat.le_of_ble_eq_true rfl) dX7_walk_24 rfl (fun r M1 L1 hp => ?_)
    obtain ⟨e1, e2, e3⟩ := hp
    subst e1
    replace e2 := e2.symm
    subst e2
    replace e3 := e3.symm
    subst e3
    have hcn := cn7_2 (Mx 44 4) (Mx 49) b
    refine r_if_ne (q := 30) (tgt := 33) X (by decide) dX7_walk_27 rfl (fun c27 => ?_) (fun c27 => ?_)
    · replace c27 : ¬ (cn7 (Mx 44 4) (Mx 49) b) = 0 := fun h => c27 ((kI_eq0 (by omega)).mpr h)
      refine r_aload_n (q := 34) (i := 0) (j := 0) (x := base + 44) X rfl rfl dX7_walk_33 rfl ?_
      refine r_callVv (q := 37) X (c_note K.2.1 G base Mx Lx ok.2.2.2.2.2.2.2.2.1) kh_44 rfl ks_RX7_125 (by decide) (by decide) ⟨Nat.zero_le _, Nat.zero_le _⟩ rfl (Nat.le_of_ble_eq_true rfl) dX7_walk_34 rfl (fun M1 L1 hp => ?_)
      obtain ⟨e2, e3⟩ := hp
      replace e2 := e2.symm
      subst e2
      replace e3 := e3.symm
      subst e3
      refine r_aload_n (q := 38) (i := 0) (j := 0) (x := base + 44) X rfl rfl dX7_walk_37 rfl ?_
      refine r_aload_n (q := 39) (i := 0) (j := 0) (x := base + 44) X rfl rfl dX7_walk_38 rfl ?_
      refine r_getf (q := 42) (i := 44) (v := .ref (base + 49)) X fk_X7_22 kh_44 rfl rfl dX7_walk_39 rfl ?_
      refine r_iload_n (q := 43) (i := 1) (j := 1) (x := nI (b)) X rfl rfl dX7_walk_42 rfl ?_
      refine r_callVi (q := 46) X (c_go7 K.2.1 G base (nt7 Mx) Lx 49 b kh_49 (by omega) (by rw [nt7_o (by decide) (by decide)]; exact ok.2.2.1) (by rw [nt7_o (by decide) (by decide)]; have := ok.2.2.2.2.1; omega) (by rw [nt7_o (by decide) (by decide)]; have := ok.2.2.2.2.2.1; omega) (by rw [nt7_o (by decide) (by decide)]; have := ok.2.2.2.2.2.2.1; omega) (by rw [nt7_o (by decide) (by decide)]; have := ok.2.2.2.2.2.2.2.1 (Mx 49 0); omega) (fun k => by rw [nt7_o (by decide) (by decide)]; have := ok.2.2.2.2.2.2.2.2.2.1 k; omega) (fun k => by rw [nt7_o (by decide) (by decide)]; have := ok.2.2.2.2.2.2.2.2.2.2 k; omega) (by rw [nt7_o (by decide) (by decide)]; intro h; subst h; exact cn7_0 (n := Mx 44 4) (by omega)) (fun h => by omega)) kh_44 rfl ks_RX7_128 (by decide) (by decide) ⟨Nat.zero_le _, Nat.zero_le _⟩ rfl (Nat.le_of_ble_eq_true rfl) dX7_walk_43 rfl (fun r M1 L1 hp => ?_)
      rw [show nt7 Mx 49 = Mx 49 from nt7_o (by decide) (by decide), gn7_eq (M := Mx) (nt7_o (by decide) (by decide)) (nt7_o (by decide) (by decide)), tk7_eq (M := Mx) (nt7_o (by decide) (by decide)) (nt7_o (by decide) (by decide))] at hp
      obtain ⟨e1, e2, e3⟩ := hp
      subst e1
      replace e2 := e2.symm
      subst e2
      replace e3 := e3.symm
      subst e3
      refine r_pop (q := 47) X rfl dX7_walk_46 rfl ?_
      refine r_aload_n (q := 48) (i := 0) (j := 0) (x := base + 44) X rfl rfl dX7_walk_47 rfl ?_
      refine r_getf (q := 51) (i := 44) (v := .ref (base + 49)) X fk_X7_22 kh_44 rfl rfl dX7_walk_48 rfl ?_
      refine r_iconst (q := 52) (v := nI 0) X kc_0 dX7_walk_51 rfl ?_
      refine r_iald (q := 53) (i := 49) (j := 0) (v := tk7 Mx (Mx 49) b 0) X kh_49 (by omega) (Nat.le_of_ble_eq_true rfl) (congrFun (act7_49 Mx b) 0) dX7_walk_52 rfl ?_
      refine r_iret X Y ?_ dX7_walk_53
      exact Or.inr ⟨b, by omega, rfl, Or.inr ⟨by omega, rfl, rfl⟩, rfl⟩
    · replace c27 : (cn7 (Mx 44 4) (Mx 49) b) = 0 := (kI_eq0 (by omega)).mp c27
      refine r_bipush (q := 32) (v := (-3)) X kb_m3 dX7_walk_30 rfl ?_
      refine r_iret X Y ?_ dX7_walk_32
      exact Or.inr ⟨b, by omega, rfl, Or.inl ⟨by omega, rfl, rfl⟩, rfl⟩
  · subst e1
    obtain ⟨e2, e3⟩ := hp2
    replace e2 := e2.symm
    subst e2
    replace e3 := e3.symm
    subst e3
    rw [hk] at hin
    refine r_if_ne (q := 15) (tgt := 18) X (by decide) dX7_walk_12 rfl (fun c => absurd c (by decide)) (fun _ => ?_)
    refine r_bipush (q := 17) (v := (-2)) X kb_m2 dX7_walk_15 rfl ?_
    refine r_iret X Y ?_ dX7_walk_17
    exact Or.inl ⟨rfl, fun t ht h => hin ⟨t, by omega, by omega, h⟩, rfl, rfl⟩
set_option maxHeartbeats 8000000 in
theorem c7_look (l : Launch) (G : ks_G) (base : Nat) (Mx : ks_M) (Lx : ks_L) (ok : okP Mx) : KI l G base 3 yX7_look cX7_look 1 .int [.ref (base + 44)] SH Mx Lx (fun rr M1 L1 => ((cn7 (Mx 44 4) (Mx 49) 2 = 0 ∧ rr = (-3) ∧ M1 = Mx) ∨ (cn7 (Mx 44 4) (Mx 49) 2 = 1 ∧ rr = nI (gn7 Mx (Mx 49)) ∧ M1 = act7 Mx 2)) ∧ L1 = Lx) := by
  refine k_meti (by decide) (Nat.le_of_ble_eq_true rfl) (fun K hK X Y => ?_)
  subst hK
  refine r_pl [(0, .ref (base + 44))] ⟨rfl, trivial⟩ ?_
  have hth := ok.1
  refine r_aload_n (q := 1) (i := 0) (j := 0) (x := base + 44) X rfl rfl dX7_look_0 rfl ?_
  refine r_iconst (q := 2) (v := nI 0) X kc_0 dX7_look_1 rfl ?_
  refine r_puti (q := 5) (i := 44) (n := 0) X fk_X7_59 kp_X7_0 kh_44 rfl dX7_look_2 rfl ?_
  refine r_mem Mx (up2_id hth) ?_
  refine r_aload_n (q := 6) (i := 0) (j := 0) (x := base + 44) X rfl rfl dX7_look_5 rfl ?_
  refine r_aload_n (q := 7) (i := 0) (j := 0) (x := base + 44) X rfl rfl dX7_look_6 rfl ?_
  refine r_getf (q := 10) (i := 44) (v := .ref (base + 49)) X fk_X7_22 kh_44 rfl rfl dX7_look_7 rfl ?_
  refine r_iconst (q := 11) (v := nI 2) X kc_2 dX7_look_10 rfl ?_
  refine r_callVi (q := 14) X (c_can7 K.2.1 G base Mx Lx 49 2 kh_49 (by omega) (by have := ok.2.2.1; omega) (by have := ok.2.2.2.1; omega) ok.2.1) kh_44 rfl ks_RX7_121 (by decide) (by decide) ⟨Nat.zero_le _, Nat.zero_le _⟩ rfl (Nat.le_of_ble_eq_true rfl) dX7_look_11 rfl (fun r M1 L1 hp => ?_)
  obtain ⟨e1, e2, e3⟩ := hp
  subst e1
  replace e2 := e2.symm
  subst e2
  replace e3 := e3.symm
  subst e3
  have hcn := cn7_2 (Mx 44 4) (Mx 49) 2
  refine r_if_ne (q := 17) (tgt := 20) X (by decide) dX7_look_14 rfl (fun c14 => ?_) (fun c14 => ?_)
  · replace c14 : ¬ (cn7 (Mx 44 4) (Mx 49) 2) = 0 := fun h => c14 ((kI_eq0 (by omega)).mpr h)
    refine r_aload_n (q := 21) (i := 0) (j := 0) (x := base + 44) X rfl rfl dX7_look_20 rfl ?_
    refine r_callVv (q := 24) X (c_note K.2.1 G base Mx Lx ok.2.2.2.2.2.2.2.2.1) kh_44 rfl ks_RX7_125 (by decide) (by decide) ⟨Nat.zero_le _, Nat.zero_le _⟩ rfl (Nat.le_of_ble_eq_true rfl) dX7_look_21 rfl (fun M1 L1 hp => ?_)
    obtain ⟨e2, e3⟩ := hp
    replace e2 := e2.symm
    subst e2
    replace e3 := e3.symm
    subst e3
    refine r_aload_n (q := 25) (i := 0) (j := 0) (x := base + 44) X rfl rfl dX7_look_24 rfl ?_
    refine r_aload_n (q := 26) (i := 0) (j := 0) (x := base + 44) X rfl rfl dX7_look_25 rfl ?_
    refine r_getf (q := 29) (i := 44) (v := .ref (base + 49)) X fk_X7_22 kh_44 rfl rfl dX7_look_26 rfl ?_
    refine r_iconst (q := 30) (v := nI 2) X kc_2 dX7_look_29 rfl ?_
    refine r_callVi (q := 33) X (c_go7 K.2.1 G base (nt7 Mx) Lx 49 2 kh_49 (by omega) (by rw [nt7_o (by decide) (by decide)]; exact ok.2.2.1) (by rw [nt7_o (by decide) (by decide)]; have := ok.2.2.2.2.1; omega) (by rw [nt7_o (by decide) (by decide)]; have := ok.2.2.2.2.2.1; omega) (by rw [nt7_o (by decide) (by decide)]; have := ok.2.2.2.2.2.2.1; omega) (by rw [nt7_o (by decide) (by decide)]; have := ok.2.2.2.2.2.2.2.1 (Mx 49 0); omega) (fun k => by rw [nt7_o (by decide) (by decide)]; have := ok.2.2.2.2.2.2.2.2.2.1 k; omega) (fun k => by rw [nt7_o (by decide) (by decide)]; have := ok.2.2.2.2.2.2.2.2.2.2 k; omega) (fun h => absurd h (by decide)) (by rw [nt7_o (by decide) (by decide)]; intro _; exact cn7_look (n := Mx 44 4) (by omega))) kh_44 rfl ks_RX7_128 (by decide) (by decide) ⟨Nat.zero_le _, Nat.zero_le _⟩ rfl (Nat.le_of_ble_eq_true rfl) dX7_look_30 rfl (fun r M1 L1 hp => ?_)
    rw [show nt7 Mx 49 = Mx 49 from nt7_o (by decide) (by decide), gn7_eq (M := Mx) (nt7_o (by decide) (by decide)) (nt7_o (by decide) (by decide)), tk7_eq (M := Mx) (nt7_o (by decide) (by decide)) (nt7_o (by decide) (by decide))] at hp
    obtain ⟨e1, e2, e3⟩ := hp
    subst e1
    replace e2 := e2.symm
    subst e2
    replace e3 := e3.symm
    subst e3
    refine r_iret X Y ?_ dX7_look_33
    exact ⟨Or.inr ⟨by omega, rfl, rfl⟩, rfl⟩
  · replace c14 : (cn7 (Mx 44 4) (Mx 49) 2) = 0 := (kI_eq0 (by omega)).mp c14
    refine r_bipush (q := 19) (v := (-3)) X kb_m3 dX7_look_17 rfl ?_
    refine r_iret X Y ?_ dX7_look_19
    exact ⟨Or.inl ⟨by omega, rfl, rfl⟩, rfl⟩
set_option maxHeartbeats 8000000 in
theorem c7_pause (l : Launch) (G : ks_G) (base : Nat) (Mx : ks_M) (Lx : ks_L) (ok : okP Mx) : KI l G base 3 yX7_pause cX7_pause 1 .int [.ref (base + 44)] SH Mx Lx (fun rr M1 L1 => rr = nI (tk7 Mx (Mx 49) 3 2) ∧ M1 = act7 Mx 3 ∧ L1 = Lx) := by
  refine k_meti (by decide) (Nat.le_of_ble_eq_true rfl) (fun K hK X Y => ?_)
  subst hK
  refine r_pl [(0, .ref (base + 44))] ⟨rfl, trivial⟩ ?_
  have hth := ok.1
  refine r_aload_n (q := 1) (i := 0) (j := 0) (x := base + 44) X rfl rfl dX7_pause_0 rfl ?_
  refine r_iconst (q := 2) (v := nI 0) X kc_0 dX7_pause_1 rfl ?_
  refine r_puti (q := 5) (i := 44) (n := 0) X fk_X7_59 kp_X7_0 kh_44 rfl dX7_pause_2 rfl ?_
  refine r_mem Mx (up2_id hth) ?_
  refine r_aload_n (q := 6) (i := 0) (j := 0) (x := base + 44) X rfl rfl dX7_pause_5 rfl ?_
  refine r_callVv (q := 9) X (c_note K.2.1 G base Mx Lx ok.2.2.2.2.2.2.2.2.1) kh_44 rfl ks_RX7_125 (by decide) (by decide) ⟨Nat.zero_le _, Nat.zero_le _⟩ rfl (Nat.le_of_ble_eq_true rfl) dX7_pause_6 rfl (fun M1 L1 hp => ?_)
  obtain ⟨e2, e3⟩ := hp
  replace e2 := e2.symm
  subst e2
  replace e3 := e3.symm
  subst e3
  refine r_aload_n (q := 10) (i := 0) (j := 0) (x := base + 44) X rfl rfl dX7_pause_9 rfl ?_
  refine r_aload_n (q := 11) (i := 0) (j := 0) (x := base + 44) X rfl rfl dX7_pause_10 rfl ?_
  refine r_getf (q := 14) (i := 44) (v := .ref (base + 49)) X fk_X7_22 kh_44 rfl rfl dX7_pause_11 rfl ?_
  refine r_iconst (q := 15) (v := nI 3) X kc_3 dX7_pause_14 rfl ?_
  refine r_callVi (q := 18) X (c_go7 K.2.1 G base (nt7 Mx) Lx 49 3 kh_49 (by omega) (by rw [nt7_o (by decide) (by decide)]; exact ok.2.2.1) (by rw [nt7_o (by decide) (by decide)]; have := ok.2.2.2.2.1; omega) (by rw [nt7_o (by decide) (by decide)]; have := ok.2.2.2.2.2.1; omega) (by rw [nt7_o (by decide) (by decide)]; have := ok.2.2.2.2.2.2.1; omega) (by rw [nt7_o (by decide) (by decide)]; have := ok.2.2.2.2.2.2.2.1 (Mx 49 0); omega) (fun k => by rw [nt7_o (by decide) (by decide)]; have := ok.2.2.2.2.2.2.2.2.2.1 k; omega) (fun k => by rw [nt7_o (by decide) (by decide)]; have := ok.2.2.2.2.2.2.2.2.2.2 k; omega) (fun h => absurd h (by decide)) (fun h => absurd h (by decide))) kh_44 rfl ks_RX7_128 (by decide) (by decide) ⟨Nat.zero_le _, Nat.zero_le _⟩ rfl (Nat.le_of_ble_eq_true rfl) dX7_pause_15 rfl (fun r M1 L1 hp => ?_)
  rw [show nt7 Mx 49 = Mx 49 from nt7_o (by decide) (by decide), gn7_eq (M := Mx) (nt7_o (by decide) (by decide)) (nt7_o (by decide) (by decide)), tk7_eq (M := Mx) (nt7_o (by decide) (by decide)) (nt7_o (by decide) (by decide))] at hp
  obtain ⟨e1, e2, e3⟩ := hp
  subst e1
  replace e2 := e2.symm
  subst e2
  replace e3 := e3.symm
  subst e3
  refine r_pop (q := 19) X rfl dX7_pause_18 rfl ?_
  refine r_aload_n (q := 20) (i := 0) (j := 0) (x := base + 44) X rfl rfl dX7_pause_19 rfl ?_
  refine r_getf (q := 23) (i := 44) (v := .ref (base + 49)) X fk_X7_22 kh_44 rfl rfl dX7_pause_20 rfl ?_
  refine r_iconst (q := 24) (v := nI 2) X kc_2 dX7_pause_23 rfl ?_
  refine r_iald (q := 25) (i := 49) (j := 2) (v := tk7 Mx (Mx 49) 3 2) X kh_49 (by omega) (Nat.le_of_ble_eq_true rfl) (congrFun (act7_49 Mx 3) 2) dX7_pause_24 rfl ?_
  refine r_iret X Y ?_ dX7_pause_25
  exact ⟨rfl, rfl, rfl⟩
set_option maxHeartbeats 8000000 in
theorem c7_lamp (l : Launch) (G : ks_G) (base : Nat) (Mx : ks_M) (Lx : ks_L) (x : Int32) (hn : Mx 44 4 ≤ 6) (ok : okP Mx) : KI l G base 2 yX7_lamp cX7_lamp 2 .int [.ref (base + 44), .int (x)] SH Mx Lx (fun rr M1 L1 => ((rr = (-1) ∧ (∀ k, k < Mx 44 4 → x ≠ nI k) ∧ M1 = Mx) ∨ (∃ k, k < Mx 44 4 ∧ x = nI k ∧ rr = nI ((Mx 49 4 ^^^ 1 <<< k) >>> k &&& 1) ∧ M1 = up2 (nt7 Mx) 49 4 (Mx 49 4 ^^^ 1 <<< k))) ∧ L1 = Lx) := by
  refine k_meti (by decide) (Nat.le_of_ble_eq_true rfl) (fun K hK X Y => ?_)
  subst hK
  refine r_pl [(0, .ref (base + 44)), (1, .int (x))] ⟨rfl, rfl, trivial⟩ ?_
  have hth := ok.1
  refine r_aload_n (q := 1) (i := 0) (j := 0) (x := base + 44) X rfl rfl dX7_lamp_0 rfl ?_
  refine r_iconst (q := 2) (v := nI 0) X kc_0 dX7_lamp_1 rfl ?_
  refine r_puti (q := 5) (i := 44) (n := 0) X fk_X7_59 kp_X7_0 kh_44 rfl dX7_lamp_2 rfl ?_
  refine r_mem Mx (up2_id hth) ?_
  refine r_aload_n (q := 6) (i := 0) (j := 0) (x := base + 44) X rfl rfl dX7_lamp_5 rfl ?_
  refine r_iload_n (q := 7) (i := 1) (j := 1) (x := x) X rfl rfl dX7_lamp_6 rfl ?_
  refine r_callVi (q := 10) X (c_noHouse K.2.1 G base Mx Lx x hn) kh_44 rfl ks_RX7_109 (by decide) (by decide) ⟨Nat.zero_le _, Nat.zero_le _⟩ rfl (Nat.le_of_ble_eq_true rfl) dX7_lamp_7 rfl (fun r M1 L1 hp => ?_)
  rcases hp with ⟨k, e1, hkn, hxe, hp2⟩ | ⟨e1, hno, hp2⟩
  · subst e1
    obtain ⟨e2, e3⟩ := hp2
    replace e2 := e2.symm
    subst e2
    replace e3 := e3.symm
    subst e3
    subst hxe
    refine r_if_eq (q := 13) (tgt := 15) X (by decide) dX7_lamp_10 rfl (fun _ => ?_) (fun c => absurd c (by decide))
    refine r_aload_n (q := 16) (i := 0) (j := 0) (x := base + 44) X rfl rfl dX7_lamp_15 rfl ?_
    refine r_callVv (q := 19) X (c_note K.2.1 G base Mx Lx ok.2.2.2.2.2.2.2.2.1) kh_44 rfl ks_RX7_125 (by decide) (by decide) ⟨Nat.zero_le _, Nat.zero_le _⟩ rfl (Nat.le_of_ble_eq_true rfl) dX7_lamp_16 rfl (fun M1 L1 hp => ?_)
    obtain ⟨e2, e3⟩ := hp
    replace e2 := e2.symm
    subst e2
    replace e3 := e3.symm
    subst e3
    refine r_aload_n (q := 20) (i := 0) (j := 0) (x := base + 44) X rfl rfl dX7_lamp_19 rfl ?_
    refine r_getf (q := 23) (i := 44) (v := .ref (base + 49)) X fk_X7_22 kh_44 rfl rfl dX7_lamp_20 rfl ?_
    refine r_iconst (q := 24) (v := nI 4) X kc_4 dX7_lamp_23 rfl ?_
    refine r_dup2 (q := 25) X rfl rfl dX7_lamp_24 rfl ?_
    refine r_iald (q := 26) (i := 49) (j := 4) (v := Mx 49 4) X kh_49 (by omega) (Nat.le_of_ble_eq_true rfl) (congrFun (nt7_o (by decide) (by decide)) _) dX7_lamp_25 rfl ?_
    refine r_iconst (q := 27) (v := nI 1) X kc_1 dX7_lamp_26 rfl ?_
    refine r_iload_n (q := 28) (i := 1) (j := 1) (x := nI (k)) X rfl rfl dX7_lamp_27 rfl ?_
    refine r_ishlR (q := 29) (x := nI 1) (y := nI (k)) (v := nI (1 <<< k)) X (k_shl (by omega)) dX7_lamp_28 rfl ?_
    refine r_ixorR (q := 30) (x := nI (Mx 49 4)) (y := nI (1 <<< k)) (v := nI ((Mx 49 4) ^^^ (1 <<< k))) X (fb_xorI _ _) dX7_lamp_29 rfl ?_
    have hx6 : Mx 49 4 ^^^ 1 <<< k < 64 := kx64 (by have := ok.2.2.2.2.2.1; have := ok.2.2.2.2.2.2.1; omega) (by omega)
    refine r_iast (q := 31) (i := 49) (j := 4) (v := (Mx 49 4) ^^^ (1 <<< k)) X kh_49 (by omega) (Nat.le_of_ble_eq_true rfl) dX7_lamp_30 rfl ?_
    refine r_aload_n (q := 32) (i := 0) (j := 0) (x := base + 44) X rfl rfl dX7_lamp_31 rfl ?_
    refine r_getf (q := 35) (i := 44) (v := .ref (base + 49)) X fk_X7_22 kh_44 rfl rfl dX7_lamp_32 rfl ?_
    refine r_iconst (q := 36) (v := nI 4) X kc_4 dX7_lamp_35 rfl ?_
    refine r_iald (q := 37) (i := 49) (j := 4) (v := Mx 49 4 ^^^ 1 <<< k) X kh_49 (by omega) (Nat.le_of_ble_eq_true rfl) (by simp [up2]) dX7_lamp_36 rfl ?_
    refine r_iload_n (q := 38) (i := 1) (j := 1) (x := nI (k)) X rfl rfl dX7_lamp_37 rfl ?_
    refine r_ishrR (q := 39) (x := nI (Mx 49 4 ^^^ 1 <<< k)) (y := nI (k)) (v := nI ((Mx 49 4 ^^^ 1 <<< k) >>> k)) X (k_shr (by omega) (by omega)) dX7_lamp_38 rfl ?_
    refine r_iconst (q := 40) (v := nI 1) X kc_1 dX7_lamp_39 rfl ?_
    refine r_iandR (q := 41) (x := nI ((Mx 49 4 ^^^ 1 <<< k) >>> k)) (y := nI 1) (v := nI (((Mx 49 4 ^^^ 1 <<< k) >>> k) &&& 1)) X (fa_and _ _) dX7_lamp_40 rfl ?_
    refine r_iret X Y ?_ dX7_lamp_41
    exact ⟨Or.inr ⟨k, hkn, rfl, rfl, rfl⟩, rfl⟩
  · subst e1
    obtain ⟨e2, e3⟩ := hp2
    replace e2 := e2.symm
    subst e2
    replace e3 := e3.symm
    subst e3
    refine r_if_eq (q := 13) (tgt := 15) X (by decide) dX7_lamp_10 rfl (fun c => absurd c (by decide)) (fun _ => ?_)
    refine r_iconst (q := 14) (v := (-1)) X kc_m1 dX7_lamp_13 rfl ?_
    refine r_iret X Y ?_ dX7_lamp_14
    exact ⟨Or.inl ⟨rfl, hno, rfl⟩, rfl⟩
set_option maxHeartbeats 8000000 in
theorem c7_key (l : Launch) (G : ks_G) (base : Nat) (Mx : ks_M) (Lx : ks_L) (x : Int32) (hn : Mx 44 4 ≤ 6) (ok : okP Mx) : KI l G base 2 yX7_key cX7_key 2 .int [.ref (base + 44), .int (x)] SH Mx Lx (fun rr M1 L1 => ((rr = (-1) ∧ (∀ k, k < Mx 44 4 → x ≠ nI k) ∧ M1 = Mx) ∨ (∃ k, k < Mx 44 4 ∧ x = nI k ∧ rr = nI ((Mx 49 5 ^^^ 1 <<< k) >>> k &&& 1) ∧ M1 = up2 (nt7 Mx) 49 5 (Mx 49 5 ^^^ 1 <<< k))) ∧ L1 = Lx) := by
  refine k_meti (by decide) (Nat.le_of_ble_eq_true rfl) (fun K hK X Y => ?_)
  subst hK
  refine r_pl [(0, .ref (base + 44)), (1, .int (x))] ⟨rfl, rfl, trivial⟩ ?_
  have hth := ok.1
  refine r_aload_n (q := 1) (i := 0) (j := 0) (x := base + 44) X rfl rfl dX7_key_0 rfl ?_
  refine r_iconst (q := 2) (v := nI 0) X kc_0 dX7_key_1 rfl ?_
  refine r_puti (q := 5) (i := 44) (n := 0) X fk_X7_59 kp_X7_0 kh_44 rfl dX7_key_2 rfl ?_
  refine r_mem Mx (up2_id hth) ?_
  refine r_aload_n (q := 6) (i := 0) (j := 0) (x := base + 44) X rfl rfl dX7_key_5 rfl ?_
  refine r_iload_n (q := 7) (i := 1) (j := 1) (x := x) X rfl rfl dX7_key_6 rfl ?_
  refine r_callVi (q := 10) X (c_noHouse K.2.1 G base Mx Lx x hn) kh_44 rfl ks_RX7_109 (by decide) (by decide) ⟨Nat.zero_le _, Nat.zero_le _⟩ rfl (Nat.le_of_ble_eq_true rfl) dX7_key_7 rfl (fun r M1 L1 hp => ?_)
  rcases hp with ⟨k, e1, hkn, hxe, hp2⟩ | ⟨e1, hno, hp2⟩
  · subst e1
    obtain ⟨e2, e3⟩ := hp2
    replace e2 := e2.symm
    subst e2
    replace e3 := e3.symm
    subst e3
    subst hxe
    refine r_if_eq (q := 13) (tgt := 15) X (by decide) dX7_key_10 rfl (fun _ => ?_) (fun c => absurd c (by decide))
    refine r_aload_n (q := 16) (i := 0) (j := 0) (x := base + 44) X rfl rfl dX7_key_15 rfl ?_
    refine r_callVv (q := 19) X (c_note K.2.1 G base Mx Lx ok.2.2.2.2.2.2.2.2.1) kh_44 rfl ks_RX7_125 (by decide) (by decide) ⟨Nat.zero_le _, Nat.zero_le _⟩ rfl (Nat.le_of_ble_eq_true rfl) dX7_key_16 rfl (fun M1 L1 hp => ?_)
    obtain ⟨e2, e3⟩ := hp
    replace e2 := e2.symm
    subst e2
    replace e3 := e3.symm
    subst e3
    refine r_aload_n (q := 20) (i := 0) (j := 0) (x := base + 44) X rfl rfl dX7_key_19 rfl ?_
    refine r_getf (q := 23) (i := 44) (v := .ref (base + 49)) X fk_X7_22 kh_44 rfl rfl dX7_key_20 rfl ?_
    refine r_iconst (q := 24) (v := nI 5) X kc_5 dX7_key_23 rfl ?_
    refine r_dup2 (q := 25) X rfl rfl dX7_key_24 rfl ?_
    refine r_iald (q := 26) (i := 49) (j := 5) (v := Mx 49 5) X kh_49 (by omega) (Nat.le_of_ble_eq_true rfl) (congrFun (nt7_o (by decide) (by decide)) _) dX7_key_25 rfl ?_
    refine r_iconst (q := 27) (v := nI 1) X kc_1 dX7_key_26 rfl ?_
    refine r_iload_n (q := 28) (i := 1) (j := 1) (x := nI (k)) X rfl rfl dX7_key_27 rfl ?_
    refine r_ishlR (q := 29) (x := nI 1) (y := nI (k)) (v := nI (1 <<< k)) X (k_shl (by omega)) dX7_key_28 rfl ?_
    refine r_ixorR (q := 30) (x := nI (Mx 49 5)) (y := nI (1 <<< k)) (v := nI ((Mx 49 5) ^^^ (1 <<< k))) X (fb_xorI _ _) dX7_key_29 rfl ?_
    have hx6 : Mx 49 5 ^^^ 1 <<< k < 64 := kx64 (by have := ok.2.2.2.2.2.1; have := ok.2.2.2.2.2.2.1; omega) (by omega)
    refine r_iast (q := 31) (i := 49) (j := 5) (v := (Mx 49 5) ^^^ (1 <<< k)) X kh_49 (by omega) (Nat.le_of_ble_eq_true rfl) dX7_key_30 rfl ?_
    refine r_aload_n (q := 32) (i := 0) (j := 0) (x := base + 44) X rfl rfl dX7_key_31 rfl ?_
    refine r_getf (q := 35) (i := 44) (v := .ref (base + 49)) X fk_X7_22 kh_44 rfl rfl dX7_key_32 rfl ?_
    refine r_iconst (q := 36) (v := nI 5) X kc_5 dX7_key_35 rfl ?_
    refine r_iald (q := 37) (i := 49) (j := 5) (v := Mx 49 5 ^^^ 1 <<< k) X kh_49 (by omega) (Nat.le_of_ble_eq_true rfl) (by simp [up2]) dX7_key_36 rfl ?_
    refine r_iload_n (q := 38) (i := 1) (j := 1) (x := nI (k)) X rfl rfl dX7_key_37 rfl ?_
    refine r_ishrR (q := 39) (x := nI (Mx 49 5 ^^^ 1 <<< k)) (y := nI (k)) (v := nI ((Mx 49 5 ^^^ 1 <<< k) >>> k)) X (k_shr (by omega) (by omega)) dX7_key_38 rfl ?_
    refine r_iconst (q := 40) (v := nI 1) X kc_1 dX7_key_39 rfl ?_
    refine r_iandR (q := 41) (x := nI ((Mx 49 5 ^^^ 1 <<< k) >>> k)) (y := nI 1) (v := nI (((Mx 49 5 ^^^ 1 <<< k) >>> k) &&& 1)) X (fa_and _ _) dX7_key_40 rfl ?_
    refine r_iret X Y ?_ dX7_key_41
    exact ⟨Or.inr ⟨k, hkn, rfl, rfl, rfl⟩, rfl⟩
  · subst e1
    obtain ⟨e2, e3⟩ := hp2
    replace e2 := e2.symm
    subst e2
    replace e3 := e3.symm
    subst e3
    refine r_if_eq (q := 13) (tgt := 15) X (by decide) dX7_key_10 rfl (fun c => absurd c (by decide)) (fun _ => ?_)
    refine r_iconst (q := 14) (v := (-1)) X kc_m1 dX7_key_13 rfl ?_
    refine r_iret X Y ?_ dX7_key_14
    exact ⟨Or.inl ⟨rfl, hno, rfl⟩, rfl⟩
def ab7 (M : ks_M) (j : Nat) : Nat := if j = 0 then M 44 4 else if j = 1 then M 49 0 else if j = 2 then M 49 1 else if j = 3 then M 49 2 else if j = 4 then M 49 3 else if j = 5 then M 49 4 else if j = 6 then M 49 5 else if j = 7 then M 44 14 else if j = 8 then M 44 17 else M 44 2
def hv7 (M : ks_M) (k j : Nat) : Nat := if j = 0 then M 46 k else if j < 4 then M 47 (3 * k + j - 1) else M 49 (6 + k)
set_option maxHeartbeats 8000000 in
theorem c7_about (l : Launch) (G : ks_G) (base : Nat) (Mx : ks_M) (Lx : ks_L) (x : Int32) (hth : Mx 44 0 = 0) : KI l G base 0 yX7_about cX7_about 2 .int [.ref (base + 44), .int (x)] SH Mx Lx (fun rr M1 L1 => (∃ j, j ≤ 9 ∧ x = nI j ∧ rr = nI (ab7 Mx j) ∧ M1 = Mx ∧ L1 = Lx) ∨ (rr = (-2) ∧ (∀ j, j ≤ 9 → x ≠ nI j) ∧ M1 = Mx ∧ L1 = Lx)) := by
  refine k_meti (by decide) (Nat.le_of_ble_eq_true rfl) (fun K hK X Y => ?_)
  subst hK
  refine r_pl [(0, .ref (base + 44)), (1, .int (x))] ⟨rfl, rfl, trivial⟩ ?_
  refine r_aload_n (q := 1) (i := 0) (j := 0) (x := base + 44) X rfl rfl dX7_about_0 rfl ?_
  refine r_iconst (q := 2) (v := nI 0) X kc_0 dX7_about_1 rfl ?_
  refine r_puti (q := 5) (i := 44) (n := 0) X fk_X7_59 kp_X7_0 kh_44 rfl dX7_about_2 rfl ?_
  refine r_mem Mx (up2_id hth) ?_
  refine r_iload_n (q := 6) (i := 1) (j := 1) (x := x) X rfl rfl dX7_about_5 rfl ?_
  rcases kTab 0 9 (by decide) (x) with ⟨j6, hj6, hk6, e6⟩ | hn6
  · obtain rfl | rfl | rfl | rfl | rfl | rfl | rfl | rfl | rfl | rfl : j6 = 0 ∨ j6 = 1 ∨ j6 = 2 ∨ j6 = 3 ∨ j6 = 4 ∨ j6 = 5 ∨ j6 = 6 ∨ j6 = 7 ∨ j6 = 8 ∨ j6 = 9 := by omega
    · subst e6
      refine r_tableIn (x := nI 0) (off := 54) (tgt := 60) X (by decide) (by decide) (by decide) (by decide) dX7_about_6 ?_
      refine r_aload_n (q := 61) (i := 0) (j := 0) (x := base + 44) X rfl rfl dX7_about_60 rfl ?_
      refine r_getf (q := 64) (i := 44) (v := .int (nI (Mx 44 4))) X fk_X7_63 kh_44 rfl rfl dX7_about_61 rfl ?_
      refine r_iret X Y ?_ dX7_about_64
      exact Or.inl ⟨0, by decide, rfl, rfl, rfl, rfl⟩
    · subst e6
      refine r_tableIn (x := nI 1) (off := 59) (tgt := 65) X (by decide) (by decide) (by decide) (by decide) dX7_about_6 ?_
      refine r_aload_n (q := 66) (i := 0) (j := 0) (x := base + 44) X rfl rfl dX7_about_65 rfl ?_
      refine r_getf (q := 69) (i := 44) (v := .ref (base + 49)) X fk_X7_22 kh_44 rfl rfl dX7_about_66 rfl ?_
      refine r_iconst (q := 70) (v := nI 0) X kc_0 dX7_about_69 rfl ?_
      refine r_iald (q := 71) (i := 49) (j := 0) (v := Mx 49 0) X kh_49 (by omega) (Nat.le_of_ble_eq_true rfl) rfl dX7_about_70 rfl ?_
      refine r_iret X Y ?_ dX7_about_71
      exact Or.inl ⟨1, by decide, rfl, rfl, rfl, rfl⟩
    · subst e6
      refine r_tableIn (x := nI 2) (off := 66) (tgt := 72) X (by decide) (by decide) (by decide) (by decide) dX7_about_6 ?_
      refine r_aload_n (q := 73) (i := 0) (j := 0) (x := base + 44) X rfl rfl dX7_about_72 rfl ?_
      refine r_getf (q := 76) (i := 44) (v := .ref (base + 49)) X fk_X7_22 kh_44 rfl rfl dX7_about_73 rfl ?_
      refine r_iconst (q := 77) (v := nI 1) X kc_1 dX7_about_76 rfl ?_
      refine r_iald (q := 78) (i := 49) (j := 1) (v := Mx 49 1) X kh_49 (by omega) (Nat.le_of_ble_eq_true rfl) rfl dX7_about_77 rfl ?_
      refine r_iret X Y ?_ dX7_about_78
      exact Or.inl ⟨2, by decide, rfl, rfl, rfl, rfl⟩
    · subst e6
      refine r_tableIn (x := nI 3) (off := 73) (tgt := 79) X (by decide) (by decide) (by decide) (by decide) dX7_about_6 ?_
      refine r_aload_n (q := 80) (i := 0) (j := 0) (x := base + 44) X rfl rfl dX7_about_79 rfl ?_
      refine r_getf (q := 83) (i := 44) (v := .ref (base + 49)) X fk_X7_22 kh_44 rfl rfl dX7_about_80 rfl ?_
      refine r_iconst (q := 84) (v := nI 2) X kc_2 dX7_about_83 rfl ?_
      refine r_iald (q := 85) (i := 49) (j := 2) (v := Mx 49 2) X kh_49 (by omega) (Nat.le_of_ble_eq_true rfl) rfl dX7_about_84 rfl ?_
      refine r_iret X Y ?_ dX7_about_85
      exact Or.inl ⟨3, by decide, rfl, rfl, rfl, rfl⟩
    · subst e6
      refine r_tableIn (x := nI 4) (off := 80) (tgt := 86) X (by decide) (by decide) (by decide) (by decide) dX7_about_6 ?_
      refine r_aload_n (q := 87) (i := 0) (j := 0) (x := base + 44) X rfl rfl dX7_about_86 rfl ?_
      refine r_getf (q := 90) (i := 44) (v := .ref (base + 49)) X fk_X7_22 kh_44 rfl rfl dX7_about_87 rfl ?_
      refine r_iconst (q := 91) (v := nI 3) X kc_3 dX7_about_90 rfl ?_
      refine r_iald (q := 92) (i := 49) (j := 3) (v := Mx 49 3) X kh_49 (by omega) (Nat.le_of_ble_eq_true rfl) rfl dX7_about_91 rfl ?_
      refine r_iret X Y ?_ dX7_about_92
      exact Or.inl ⟨4, by decide, rfl, rfl, rfl, rfl⟩
    · subst e6
      refine r_tableIn (x := nI 5) (off := 87) (tgt := 93) X (by decide) (by decide) (by decide) (by decide) dX7_about_6 ?_
      refine r_aload_n (q := 94) (i := 0) (j := 0) (x := base + 44) X rfl rfl dX7_about_93 rfl ?_
      refine r_getf (q := 97) (i := 44) (v := .ref (base + 49)) X fk_X7_22 kh_44 rfl rfl dX7_about_94 rfl ?_
      refine r_iconst (q := 98) (v := nI 4) X kc_4 dX7_about_97 rfl ?_
      refine r_iald (q := 99) (i := 49) (j := 4) (v := Mx 49 4) X kh_49 (by omega) (Nat.le_of_ble_eq_true rfl) rfl dX7_about_98 rfl ?_
      refine r_iret X Y ?_ dX7_about_99
      exact Or.inl ⟨5, by decide, rfl, rfl, rfl, rfl⟩
    · subst e6
      refine r_tableIn (x := nI 6) (off := 94) (tgt := 100) X (by decide) (by decide) (by decide) (by decide) dX7_about_6 ?_
      refine r_aload_n (q := 101) (i := 0) (j := 0) (x := base + 44) X rfl rfl dX7_about_100 rfl ?_
      refine r_getf (q := 104) (i := 44) (v := .ref (base + 49)) X fk_X7_22 kh_44 rfl rfl dX7_about_101 rfl ?_
      refine r_iconst (q := 105) (v := nI 5) X kc_5 dX7_about_104 rfl ?_
      refine r_iald (q := 106) (i := 49) (j := 5) (v := Mx 49 5) X kh_49 (by omega) (Nat.le_of_ble_eq_true rfl) rfl dX7_about_105 rfl ?_
      refine r_iret X Y ?_ dX7_about_106
      exact Or.inl ⟨6, by decide, rfl, rfl, rfl, rfl⟩
    · subst e6
      refine r_tableIn (x := nI 7) (off := 101) (tgt := 107) X (by decide) (by decide) (by decide) (by decide) dX7_about_6 ?_
      refine r_aload_n (q := 108) (i := 0) (j := 0) (x := base + 44) X rfl rfl dX7_about_107 rfl ?_
      refine r_getf (q := 111) (i := 44) (v := .int (nI (Mx 44 14))) X fk_X7_95 kh_44 rfl rfl dX7_about_108 rfl ?_
      refine r_iret X Y ?_ dX7_about_111
      exact Or.inl ⟨7, by decide, rfl, rfl, rfl, rfl⟩
    · subst e6
      refine r_tableIn (x := nI 8) (off := 106) (tgt := 112) X (by decide) (by decide) (by decide) (by decide) dX7_about_6 ?_
      refine r_aload_n (q := 113) (i := 0) (j := 0) (x := base + 44) X rfl rfl dX7_about_112 rfl ?_
      refine r_getf (q := 116) (i := 44) (v := .int (nI (Mx 44 17))) X fk_X7_106 kh_44 rfl rfl dX7_about_113 rfl ?_
      refine r_iret X Y ?_ dX7_about_116
      exact Or.inl ⟨8, by decide, rfl, rfl, rfl, rfl⟩
    · subst e6
      refine r_tableIn (x := nI 9) (off := 111) (tgt := 117) X (by decide) (by decide) (by decide) (by decide) dX7_about_6 ?_
      refine r_aload_n (q := 118) (i := 0) (j := 0) (x := base + 44) X rfl rfl dX7_about_117 rfl ?_
      refine r_getf (q := 121) (i := 44) (v := .int (nI (Mx 44 2))) X fk_X7_72 kh_44 rfl rfl dX7_about_118 rfl ?_
      refine r_iret X Y ?_ dX7_about_121
      exact Or.inl ⟨9, by decide, rfl, rfl, rfl, rfl⟩
  · refine r_tableOut (tgt := 122) X hn6 (by decide) dX7_about_6 ?_
    refine r_bipush (q := 124) (v := (-2)) X kb_m2 dX7_about_122 rfl ?_
    refine r_iret X Y ?_ dX7_about_124
    refine Or.inr ⟨rfl, fun j hj h => ?_, rfl, rfl⟩
    rw [h] at hn6
    rw [nI_toInt (by omega)] at hn6
    omega
set_option maxHeartbeats 8000000 in
theorem c7_sight (l : Launch) (G : ks_G) (base : Nat) (Mx : ks_M) (Lx : ks_L) (x z : Int32) (hn : Mx 44 4 ≤ 6) (ok : okP Mx) : KI l G base 2 yX7_sight cX7_sight 3 .int [.ref (base + 44), .int (x), .int (z)] SH Mx Lx (fun rr M1 L1 => ((rr = (-1) ∧ (∀ k, k < Mx 44 4 → x ≠ nI k)) ∨ (∃ k, k < Mx 44 4 ∧ x = nI k ∧ ((∃ j, j ≤ 99 ∧ z = nI j ∧ rr = nI (sg7 Mx (Mx 49) k j)) ∨ (rr = (-2) ∧ ∀ j, j ≤ 99 → z ≠ nI j)))) ∧ M1 = Mx ∧ L1 = Lx) := by
  refine k_meti (by decide) (Nat.le_of_ble_eq_true rfl) (fun K hK X Y => ?_)
  subst hK
  refine r_pl [(0, .ref (base + 44)), (1, .int (x)), (2, .int (z))] ⟨rfl, rfl, rfl, trivial⟩ ?_
  have hth := ok.1
  refine r_aload_n (q := 1) (i := 0) (j := 0) (x := base + 44) X rfl rfl dX7_sight_0 rfl ?_
  refine r_iconst (q := 2) (v := nI 0) X kc_0 dX7_sight_1 rfl ?_
  refine r_puti (q := 5) (i := 44) (n := 0) X fk_X7_59 kp_X7_0 kh_44 rfl dX7_sight_2 rfl ?_
  refine r_mem Mx (up2_id hth) ?_
  refine r_aload_n (q := 6) (i := 0) (j := 0) (x := base + 44) X rfl rfl dX7_sight_5 rfl ?_
  refine r_iload_n (q := 7) (i := 1) (j := 1) (x := x) X rfl rfl dX7_sight_6 rfl ?_
  refine r_callVi (q := 10) X (c_noHouse K.2.1 G base Mx Lx x hn) kh_44 rfl ks_RX7_109 (by decide) (by decide) ⟨Nat.zero_le _, Nat.zero_le _⟩ rfl (Nat.le_of_ble_eq_true rfl) dX7_sight_7 rfl (fun r M1 L1 hp => ?_)
  rcases hp with ⟨k, e1, hkn, hxe, hp2⟩ | ⟨e1, hno, hp2⟩
  · subst e1
    obtain ⟨e2, e3⟩ := hp2
    replace e2 := e2.symm
    subst e2
    replace e3 := e3.symm
    subst e3
    subst hxe
    refine r_if_eq (q := 13) (tgt := 15) X (by decide) dX7_sight_10 rfl (fun _ => ?_) (fun c => absurd c (by decide))
    refine r_iload_n (q := 16) (i := 2) (j := 2) (x := z) X rfl rfl dX7_sight_15 rfl ?_
    refine r_i2l (q := 17) (v := z.toInt64) X rfl dX7_sight_16 rfl ?_
    refine r_lconst (q := 18) (v := 0) X rfl dX7_sight_17 rfl ?_
    refine r_ldc2 (q := 21) (v := 99) X kl_RX7_115 dX7_sight_18 rfl ?_
    refine r_callSi (q := 24) X (c_in K.2.1 G base Mx Lx z.toInt64 0 99) ks_RX7_66 (by decide) (by decide) ⟨Nat.zero_le _, Nat.zero_le _⟩ rfl (Nat.le_of_ble_eq_true rfl) dX7_sight_21 rfl (fun r M1 L1 hp => ?_)
    have hkz := kIn (x := z) (y := 0) (z := 99) (a := 0) (b := 99) rfl rfl (by omega) (by omega)
    rcases hp with ⟨e1, hinz, hp2⟩ | ⟨e1, hinz, hp2⟩
    · subst e1
      obtain ⟨e2, e3⟩ := hp2
      replace e2 := e2.symm
      subst e2
      replace e3 := e3.symm
      subst e3
      rw [hkz] at hinz
      obtain ⟨jz, hloz, hbz, rfl⟩ := hinz
      refine r_if_eq (q := 27) (tgt := 40) X (by decide) dX7_sight_24 rfl (fun c => absurd c (by decide)) (fun _ => ?_)
      refine r_aload_n (q := 28) (i := 0) (j := 0) (x := base + 44) X rfl rfl dX7_sight_27 rfl ?_
      refine r_aload_n (q := 29) (i := 0) (j := 0) (x := base + 44) X rfl rfl dX7_sight_28 rfl ?_
      refine r_getf (q := 32) (i := 44) (v := .ref (base + 49)) X fk_X7_22 kh_44 rfl rfl dX7_sight_29 rfl ?_
      refine r_iload_n (q := 33) (i := 1) (j := 1) (x := nI (k)) X rfl rfl dX7_sight_32 rfl ?_
      refine r_iload_n (q := 34) (i := 2) (j := 2) (x := nI (jz)) X rfl rfl dX7_sight_33 rfl ?_
      refine r_callVi (q := 37) X (c_sight7 K.2.1 G base Mx Lx 49 k jz kh_49 (by omega) (by omega) (by have := ok.2.2.2.2.2.1; omega) (by have := ok.2.2.2.2.2.2.1; omega) (by have := ok.2.2.2.2.2.2.2.2.2.1 k; omega) (fun q => by have := ok.2.2.2.2.2.2.2.2.2.2 q; omega)) kh_44 rfl ks_RX7_117 (by decide) (by decide) ⟨Nat.zero_le _, Nat.zero_le _⟩ rfl (Nat.le_of_ble_eq_true rfl) dX7_sight_34 rfl (fun r M1 L1 hp => ?_)
      obtain ⟨e1, e2, e3⟩ := hp
      subst e1
      replace e2 := e2.symm
      subst e2
      replace e3 := e3.symm
      subst e3
      refine r_goto (tgt := 42) X (by decide) dX7_sight_37 ?_
      refine r_iret X Y ?_ dX7_sight_42
      exact ⟨Or.inr ⟨k, hkn, rfl, Or.inl ⟨jz, by omega, rfl, rfl⟩⟩, rfl, rfl⟩
    · subst e1
      obtain ⟨e2, e3⟩ := hp2
      replace e2 := e2.symm
      subst e2
      replace e3 := e3.symm
      subst e3
      rw [hkz] at hinz
      refine r_if_eq (q := 27) (tgt := 40) X (by decide) dX7_sight_24 rfl (fun _ => ?_) (fun c => absurd c (by decide))
      refine r_bipush (q := 42) (v := (-2)) X kb_m2 dX7_sight_40 rfl ?_
      refine r_iret X Y ?_ dX7_sight_42
      exact ⟨Or.inr ⟨k, hkn, rfl, Or.inr ⟨rfl, fun j hj h => hinz ⟨j, by omega, by omega, h⟩⟩⟩, rfl, rfl⟩
  · subst e1
    obtain ⟨e2, e3⟩ := hp2
    replace e2 := e2.symm
    subst e2
    replace e3 := e3.symm
    subst e3
    refine r_if_eq (q := 13) (tgt := 15) X (by decide) dX7_sight_10 rfl (fun c => absurd c (by decide)) (fun _ => ?_)
    refine r_iconst (q := 14) (v := (-1)) X kc_m1 dX7_sight_13 rfl ?_
    refine r_iret X Y ?_ dX7_sight_14
    exact ⟨Or.inl ⟨rfl, hno⟩, rfl, rfl⟩
set_option maxHeartbeats 8000000 in
theorem c7_house (l : Launch) (G : ks_G) (base : Nat) (Mx : ks_M) (Lx : ks_L) (x z : Int32) (hn : Mx 44 4 ≤ 6) (ok : okP Mx) : KI l G base 2 yX7_house cX7_house 3 .int [.ref (base + 44), .int (x), .int (z)] SH Mx Lx (fun rr M1 L1 => ((rr = (-1) ∧ (∀ k, k < Mx 44 4 → x ≠ nI k)) ∨ (∃ k, k < Mx 44 4 ∧ x = nI k ∧ ((∃ j, j ≤ 4 ∧ z = nI j ∧ rr = nI (hv7 Mx k j)) ∨ (rr = (-2) ∧ ∀ j, j ≤ 4 → z ≠ nI j)))) ∧ M1 = Mx ∧ L1 = Lx) := by
  refine k_meti (by decide) (Nat.le_of_ble_eq_true rfl) (fun K hK X Y => ?_)
  subst hK
  refine r_pl [(0, .ref (base + 44)), (1, .int (x)), (2, .int (z))] ⟨rfl, rfl, rfl, trivial⟩ ?_
  have hth := ok.1
  refine r_aload_n (q := 1) (i := 0) (j := 0) (x := base + 44) X rfl rfl dX7_house_0 rfl ?_
  refine r_iconst (q := 2) (v := nI 0) X kc_0 dX7_house_1 rfl ?_
  refine r_puti (q := 5) (i := 44) (n := 0) X fk_X7_59 kp_X7_0 kh_44 rfl dX7_house_2 rfl ?_
  refine r_mem Mx (up2_id hth) ?_
  refine r_aload_n (q := 6) (i := 0) (j := 0) (x := base + 44) X rfl rfl dX7_house_5 rfl ?_
  refine r_iload_n (q := 7) (i := 1) (j := 1) (x := x) X rfl rfl dX7_house_6 rfl ?_
  refine r_callVi (q := 10) X (c_noHouse K.2.1 G base Mx Lx x hn) kh_44 rfl ks_RX7_109 (by decide) (by decide) ⟨Nat.zero_le _, Nat.zero_le _⟩ rfl (Nat.le_of_ble_eq_true rfl) dX7_house_7 rfl (fun r M1 L1 hp => ?_)
  rcases hp with ⟨k, e1, hkn, hxe, hp2⟩ | ⟨e1, hno, hp2⟩
  · subst e1
    obtain ⟨e2, e3⟩ := hp2
    replace e2 := e2.symm
    subst e2
    replace e3 := e3.symm
    subst e3
    subst hxe
    refine r_if_eq (q := 13) (tgt := 15) X (by decide) dX7_house_10 rfl (fun _ => ?_) (fun c => absurd c (by decide))
    refine r_iload_n (q := 16) (i := 2) (j := 2) (x := z) X rfl rfl dX7_house_15 rfl ?_
    refine r_if_ne (q := 19) (tgt := 26) X (by decide) dX7_house_16 rfl (fun c16 => ?_) (fun c16 => ?_)
    · skip
      refine r_iload_n (q := 27) (i := 2) (j := 2) (x := z) X rfl rfl dX7_house_26 rfl ?_
      refine r_i2l (q := 28) (v := z.toInt64) X rfl dX7_house_27 rfl ?_
      refine r_lconst (q := 29) (v := 1) X rfl dX7_house_28 rfl ?_
      refine r_ldc2 (q := 32) (v := 3) X kl_RX7_113 dX7_house_29 rfl ?_
      refine r_callSi (q := 35) X (c_in K.2.1 G base Mx Lx z.toInt64 1 3) ks_RX7_66 (by decide) (by decide) ⟨Nat.zero_le _, Nat.zero_le _⟩ rfl (Nat.le_of_ble_eq_true rfl) dX7_house_32 rfl (fun r M1 L1 hp => ?_)
      have hkz := kIn (x := z) (y := 1) (z := 3) (a := 1) (b := 3) rfl rfl (by omega) (by omega)
      rcases hp with ⟨e1, hinz, hp2⟩ | ⟨e1, hinz, hp2⟩
      · subst e1
        obtain ⟨e2, e3⟩ := hp2
        replace e2 := e2.symm
        subst e2
        replace e3 := e3.symm
        subst e3
        rw [hkz] at hinz
        obtain ⟨jz, hloz, hbz, rfl⟩ := hinz
        refine r_if_eq (q := 38) (tgt := 53) X (by decide) dX7_house_35 rfl (fun c => absurd c (by decide)) (fun _ => ?_)
        refine r_aload_n (q := 39) (i := 0) (j := 0) (x := base + 44) X rfl rfl dX7_house_38 rfl ?_
        refine r_getf (q := 42) (i := 44) (v := .ref (base + 47)) X fk_X7_16 kh_44 rfl rfl dX7_house_39 rfl ?_
        refine r_iconst (q := 43) (v := nI 3) X kc_3 dX7_house_42 rfl ?_
        refine r_iload_n (q := 44) (i := 1) (j := 1) (x := nI (k)) X rfl rfl dX7_house_43 rfl ?_
        refine r_imulR (q := 45) (x := nI 3) (y := nI (k)) (v := nI (3 * k)) X (pk_mul _ _) dX7_house_44 rfl ?_
        refine r_iload_n (q := 46) (i := 2) (j := 2) (x := nI (jz)) X rfl rfl dX7_house_45 rfl ?_
        refine r_iaddR (q := 47) (x := nI (3 * k)) (y := nI (jz)) (v := nI ((3 * k) + jz)) X (nI_add _ _) dX7_house_46 rfl ?_
        refine r_iconst (q := 48) (v := nI 1) X kc_1 dX7_house_47 rfl ?_
        refine r_isubR (q := 49) (x := nI ((3 * k) + jz)) (y := nI 1) (v := nI (((3 * k) + jz) - 1)) X (pk_sub (by omega)) dX7_house_48 rfl ?_
        refine r_iald (q := 50) (i := 47) (j := ((3 * k) + jz) - 1) (v := Mx 47 (((3 * k) + jz) - 1)) X kh_47 (by omega) (Nat.le_of_ble_eq_true rfl) rfl dX7_house_49 rfl ?_
        refine r_goto (tgt := 72) X (by decide) dX7_house_50 ?_
        refine r_iret X Y ?_ dX7_house_72
        exact ⟨Or.inr ⟨k, hkn, rfl, Or.inl ⟨jz, by omega, rfl, by unfold hv7; rw [if_neg (by omega), if_pos (by omega)]⟩⟩, rfl, rfl⟩
      · subst e1
        obtain ⟨e2, e3⟩ := hp2
        replace e2 := e2.symm
        subst e2
        replace e3 := e3.symm
        subst e3
        rw [hkz] at hinz
        refine r_if_eq (q := 38) (tgt := 53) X (by decide) dX7_house_35 rfl (fun _ => ?_) (fun c => absurd c (by decide))
        refine r_iload_n (q := 54) (i := 2) (j := 2) (x := z) X rfl rfl dX7_house_53 rfl ?_
        refine r_iconst (q := 55) (v := nI 4) X kc_4 dX7_house_54 rfl ?_
        refine r_icmp_ne (q := 58) (tgt := 70) X (by decide) dX7_house_55 rfl (fun c55 => ?_) (fun c55 => ?_)
        · skip
          refine r_bipush (q := 72) (v := (-2)) X kb_m2 dX7_house_70 rfl ?_
          refine r_iret X Y ?_ dX7_house_72
          refine ⟨Or.inr ⟨k, hkn, rfl, Or.inr ⟨rfl, fun j hj h => ?_⟩⟩, rfl, rfl⟩
          rcases (show j = 0 ∨ (1 ≤ j ∧ j ≤ 3) ∨ j = 4 by omega) with h0 | h0 | h0
          · subst h0; exact c16 (h.trans nI_0)
          · exact hinz ⟨j, by omega, by omega, h⟩
          · subst h0; exact c55 h
        · skip
          subst c55
          refine r_aload_n (q := 59) (i := 0) (j := 0) (x := base + 44) X rfl rfl dX7_house_58 rfl ?_
          refine r_getf (q := 62) (i := 44) (v := .ref (base + 49)) X fk_X7_22 kh_44 rfl rfl dX7_house_59 rfl ?_
          refine r_bipush (q := 64) (v := nI 6) X kb_6 dX7_house_62 rfl ?_
          refine r_iload_n (q := 65) (i := 1) (j := 1) (x := nI (k)) X rfl rfl dX7_house_64 rfl ?_
          refine r_iaddR (q := 66) (x := nI 6) (y := nI (k)) (v := nI (6 + k)) X (nI_add _ _) dX7_house_65 rfl ?_
          refine r_iald (q := 67) (i := 49) (j := 6 + k) (v := Mx 49 (6 + k)) X kh_49 (by omega) (Nat.le_of_ble_eq_true rfl) rfl dX7_house_66 rfl ?_
          refine r_goto (tgt := 72) X (by decide) dX7_house_67 ?_
          refine r_iret X Y ?_ dX7_house_72
          exact ⟨Or.inr ⟨k, hkn, rfl, Or.inl ⟨4, by decide, rfl, rfl⟩⟩, rfl, rfl⟩
    · skip
      obtain rfl : z = nI 0 := c16.trans nI_0.symm
      refine r_aload_n (q := 20) (i := 0) (j := 0) (x := base + 44) X rfl rfl dX7_house_19 rfl ?_
      refine r_getf (q := 23) (i := 44) (v := .ref (base + 46)) X fk_X7_13 kh_44 rfl rfl dX7_house_20 rfl ?_
      refine r_iload_n (q := 24) (i := 1) (j := 1) (x := nI (k)) X rfl rfl dX7_house_23 rfl ?_
      refine r_iald (q := 25) (i := 46) (j := k) (v := Mx 46 k) X kh_46 (by omega) (Nat.le_of_ble_eq_true rfl) rfl dX7_house_24 rfl ?_
      refine r_iret X Y ?_ dX7_house_25
      exact ⟨Or.inr ⟨k, hkn, rfl, Or.inl ⟨0, by decide, rfl, rfl⟩⟩, rfl, rfl⟩
  · subst e1
    obtain ⟨e2, e3⟩ := hp2
    replace e2 := e2.symm
    subst e2
    replace e3 := e3.symm
    subst e3
    refine r_if_eq (q := 13) (tgt := 15) X (by decide) dX7_house_10 rfl (fun c => absurd c (by decide)) (fun _ => ?_)
    refine r_iconst (q := 14) (v := (-1)) X kc_m1 dX7_house_13 rfl ?_
    refine r_iret X Y ?_ dX7_house_14
    exact ⟨Or.inl ⟨rfl, hno⟩, rfl, rfl⟩
set_option maxHeartbeats 8000000 in
theorem c7_unsee (l : Launch) (G : ks_G) (base : Nat) (Mx : ks_M) (Lx : ks_L) (hth : Mx 44 0 = 0) : KI l G base 0 yX7_unsee cX7_unsee 2 .int [.ref (base + 44)] SH Mx Lx (fun rr M1 L1 => rr = nI (Mx 44 17) ∧ M1 = up2 Mx 44 17 0 ∧ L1 = Lx) := by
  refine k_meti (by decide) (Nat.le_of_ble_eq_true rfl) (fun K hK X Y => ?_)
  subst hK
  refine r_pl [(0, .ref (base + 44))] ⟨rfl, trivial⟩ ?_
  refine r_aload_n (q := 1) (i := 0) (j := 0) (x := base + 44) X rfl rfl dX7_unsee_0 rfl ?_
  refine r_iconst (q := 2) (v := nI 0) X kc_0 dX7_unsee_1 rfl ?_
  refine r_puti (q := 5) (i := 44) (n := 0) X fk_X7_59 kp_X7_0 kh_44 rfl dX7_unsee_2 rfl ?_
  refine r_mem Mx (up2_id hth) ?_
  refine r_aload_n (q := 6) (i := 0) (j := 0) (x := base + 44) X rfl rfl dX7_unsee_5 rfl ?_
  refine r_getf (q := 9) (i := 44) (v := .int (nI (Mx 44 17))) X fk_X7_106 kh_44 rfl rfl dX7_unsee_6 rfl ?_
  refine r_istore_n (q := 10) (i := 1) (j := 1) X rfl (Nat.le_of_ble_eq_true rfl) dX7_unsee_9 rfl ?_
  refine r_aload_n (q := 11) (i := 0) (j := 0) (x := base + 44) X rfl rfl dX7_unsee_10 rfl ?_
  refine r_iconst (q := 12) (v := nI 0) X kc_0 dX7_unsee_11 rfl ?_
  refine r_puti (q := 15) (i := 44) (n := 0) X fk_X7_106 kp_X7_17 kh_44 rfl dX7_unsee_12 rfl ?_
  refine r_iload_n (q := 16) (i := 1) (j := 1) (x := nI (Mx 44 17)) X rfl rfl dX7_unsee_15 rfl ?_
  refine r_iret X Y ?_ dX7_unsee_16
  exact ⟨rfl, rfl, rfl⟩
set_option maxHeartbeats 8000000 in
theorem c7_seed (l : Launch) (G : ks_G) (base : Nat) (Mx : ks_M) (Lx : ks_L) (v : Int64) (hth : Mx 44 0 = 0) : KL l G base 0 yX7_seed cX7_seed 5 [.ref (base + 44), .long (v)] SH Mx Lx (fun rr M1 L1 => rr = Lx 44 ∧ M1 = Mx ∧ L1 = upl Lx 44 v) := by
  refine k_metl (by decide) (Nat.le_of_ble_eq_true rfl) (fun K hK X Y => ?_)
  subst hK
  refine r_pl [(0, .ref (base + 44)), (1, .long (v))] ⟨rfl, rfl, trivial⟩ ?_
  refine r_aload_n (q := 1) (i := 0) (j := 0) (x := base + 44) X rfl rfl dX7_seed_0 rfl ?_
  refine r_iconst (q := 2) (v := nI 0) X kc_0 dX7_seed_1 rfl ?_
  refine r_puti (q := 5) (i := 44) (n := 0) X fk_X7_59 kp_X7_0 kh_44 rfl dX7_seed_2 rfl ?_
  refine r_mem Mx (up2_id hth) ?_
  refine r_aload_n (q := 6) (i := 0) (j := 0) (x := base + 44) X rfl rfl dX7_seed_5 rfl ?_
  refine r_getf (q := 9) (i := 44) (v := .long (Lx 44)) X fk_X7_191 kh_44 rfl rfl dX7_seed_6 rfl ?_
  refine r_lstore_n (q := 10) (i := 3) (j := 3) X rfl (Nat.le_of_ble_eq_true rfl) dX7_seed_9 rfl ?_
  refine r_aload_n (q := 11) (i := 0) (j := 0) (x := base + 44) X rfl rfl dX7_seed_10 rfl ?_
  refine r_lload_n (q := 12) (i := 1) (j := 1) (x := v) X rfl rfl dX7_seed_11 rfl ?_
  refine r_putl (q := 15) (i := 44) (x := v) X fk_X7_191 kp_X7_22 kh_44 rfl (ks_ho (by decide)) dX7_seed_12 rfl ?_
  refine r_lload_n (q := 16) (i := 3) (j := 3) (x := (Lx 44)) X rfl rfl dX7_seed_15 rfl ?_
  refine r_lret X Y ?_ dX7_seed_16
  exact ⟨rfl, rfl, rfl⟩
end
